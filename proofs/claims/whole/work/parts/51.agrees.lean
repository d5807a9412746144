variable {G : am_G} {I : Nat → Nat → Int32} {J : Nat → Nat → Int64}
set_option maxRecDepth 4000 in
theorem sp_X4_reachM {t : PT} (hA : atP 1 I J t) (hK : okP t) {kx ky : Int} (hkn0 : knF I kx ky) (hT : tabF J kx ky (Fr t (pm t))) {x y : Int} (hx : 0 ≤ x ∧ x ≤ 1000) (hy : 0 ≤ y ∧ y ≤ 1000) : am_S G mX4_reach 3 0 0 [.ref 174, .int (iZ x), .int (iZ y), .ref 1] (215, kK, kR, I, J) (am_qv (fun w' => ∃ (I' : Nat → Nat → Int32) (J' : Nat → Nat → Int64), w' = (215, kK, kR, I', J') ∧ (∃ lx ly : Int, knF I' lx ly ∧ tabF J' lx ly (Fr t (pm t)) ∧ min x 143 ≤ lx ∧ min y 143 ≤ ly ∧ kx ≤ lx ∧ ky ≤ ly) ∧ (∀ h, h ≠ 174 → I' h = I h) ∧ ∀ h, h ≠ 175 → J' h = J h)) := by
  have hm := hK.1
  obtain ⟨k1, k2, k3, k4, k5, k6⟩ := hkn0
  refine am_spec (plainFor_of_name (by decide +kernel)) (Nat.le_of_ble_eq_true rfl) (L := [some (.ref 174), some (.int (iZ x)), some (.int (iZ y)), some (.ref 1), none]) rfl (fun X C T => ?_)
  refine am_iload_n (q := 1) C dX4_reach_0 rfl rfl ?_
  refine am_aload_n (q := 2) C dX4_reach_1 rfl rfl ?_
  refine am_getIe (q := 5) (v := (iZ kx)) C fb_X4_15 dX4_reach_2 rfl rfl kk_174 (show 174 < 215 by decide) k1 ?_
  refine am_icmpZ_gt (q := 8) (tgt := 17) C dX4_reach_5 (by decide) rfl ⟨by omega, by omega⟩ ⟨by omega, by omega⟩ (fun c1 => ?_) (fun c1 => ?_)
  · refine am_aload_n (q := 18) C dX4_reach_17 rfl rfl ?_
    refine am_iload_n (q := 19) C dX4_reach_18 rfl rfl ?_
    refine am_aload_n (q := 20) C dX4_reach_19 rfl rfl ?_
    refine am_getIe (q := 23) (v := (iZ kx)) C fb_X4_15 dX4_reach_20 rfl rfl kk_174 (show 174 < 215 by decide) k1 ?_
    refine am_callS (q := 26) (As := [.int (iZ x), .int (iZ kx)]) (rest := [.ref 174]) C mb_J9_max_7cf53 st_J9_max_7cf53 ml_X4_22 dX4_reach_23 rfl (sp_max ⟨by omega, by omega⟩ ⟨by omega, by omega⟩) rfl rfl ⟨by decide, by decide⟩ ⟨Nat.le_refl _, Nat.le_refl _⟩ (Nat.le_of_ble_eq_true rfl) (am_rie ?_)
    refine am_sipush (q := 29) (v := iZ 143) C dX4_reach_26 rfl rfl ?_
    refine am_callS (q := 32) (As := [.int (iZ (max x kx)), .int (iZ 143)]) (rest := [.ref 174]) C mb_J9_min_7cf53 st_J9_min_7cf53 ml_X4_28 dX4_reach_29 rfl (sp_min ⟨by omega, by omega⟩ ⟨by omega, by omega⟩) rfl rfl ⟨by decide, by decide⟩ ⟨Nat.le_refl _, Nat.le_refl _⟩ (Nat.le_of_ble_eq_true rfl) (am_rie ?_)
    refine am_putI (q := 35) C fw_X4_15 dX4_reach_32 rfl rfl kk_174 (show 174 < 215 by decide) ?_
    refine am_aload_n (q := 36) C dX4_reach_35 rfl rfl ?_
    refine am_iload_n (q := 37) C dX4_reach_36 rfl rfl ?_
    refine am_aload_n (q := 38) C dX4_reach_37 rfl rfl ?_
    refine am_getIe (q := 41) (v := (iZ ky)) C fb_X4_19 dX4_reach_38 rfl rfl kk_174 (show 174 < 215 by decide) (by rw [am_up_ne _ _ _ _ (Or.inr (by decide))]; exact k2) ?_
    refine am_callS (q := 44) (As := [.int (iZ y), .int (iZ ky)]) (rest := [.ref 174]) C mb_J9_max_7cf53 st_J9_max_7cf53 ml_X4_22 dX4_reach_41 rfl (sp_max ⟨by omega, by omega⟩ ⟨by omega, by omega⟩) rfl rfl ⟨by decide, by decide⟩ ⟨Nat.le_refl _, Nat.le_refl _⟩ (Nat.le_of_ble_eq_true rfl) (am_rie ?_)
    refine am_sipush (q := 47) (v := iZ 143) C dX4_reach_44 rfl rfl ?_
    refine am_callS (q := 50) (As := [.int (iZ (max y ky)), .int (iZ 143)]) (rest := [.ref 174]) C mb_J9_min_7cf53 st_J9_min_7cf53 ml_X4_28 dX4_reach_47 rfl (sp_min ⟨by omega, by omega⟩ ⟨by omega, by omega⟩) rfl rfl ⟨by decide, by decide⟩ ⟨Nat.le_refl _, Nat.le_refl _⟩ (Nat.le_of_ble_eq_true rfl) (am_rie ?_)
    refine am_putI (q := 53) C fw_X4_19 dX4_reach_50 rfl rfl kk_174 (show 174 < 215 by decide) ?_
    refine am_aload_n (q := 54) C dX4_reach_53 rfl rfl ?_
    refine am_callV (q := 57) (As := []) (rest := []) C mb_X4_begin im_X4_begin se_X4_begin ml_X4_31 cb_4 kk_174 (show 174 < 215 by decide) dX4_reach_54 rfl (sp_X4_begin (kx := min (max x kx) 143) (ky := min (max y ky) 143) ⟨am_up_ne _ _ _ _ (Or.inr (by decide)) |>.trans (am_up_eq _ _ _ _), am_up_eq _ _ _ _, by omega, by omega, by omega, by omega⟩) rfl rfl ⟨by decide, by decide⟩ ⟨Nat.le_refl _, Nat.le_refl _⟩ (Nat.le_of_ble_eq_true rfl) (am_rv (fun w' hw' => ?_))
    obtain ⟨J1, rfl, hJ1, hT1⟩ := hw'
    have hI : ∀ h, h ≠ 174 → (am_up (am_up I 174 1 (iZ (min (max x kx) 143))) 174 2 (iZ (min (max y ky) 143))) h = I h := fun h hh => by rw [am_up_row _ _ _ _ hh, am_up_row _ _ _ _ hh]
    have hkn : knF (am_up (am_up I 174 1 (iZ (min (max x kx) 143))) 174 2 (iZ (min (max y ky) 143))) (min (max x kx) 143) (min (max y ky) 143) := ⟨am_up_ne _ _ _ _ (Or.inr (by decide)) |>.trans (am_up_eq _ _ _ _), am_up_eq _ _ _ _, by omega, by omega, by omega, by omega⟩
    generalize (am_up (am_up I 174 1 (iZ (min (max x kx) 143))) 174 2 (iZ (min (max y ky) 143))) = I1 at hI hkn ⊢
    refine am_iconst (q := 58) (v := iZ 0) C dX4_reach_57 rfl rfl ?_
    refine am_istore (q := 60) (L' := [some (.ref 174), some (.int (iZ x)), some (.int (iZ y)), some (.ref 1), some (.int (iZ 0))]) C dX4_reach_58 rfl (by decide) rfl rfl ?_
    have lp : ∀ (fuel : Nat) (p : Nat) (J2 : Nat → Nat → Int64), (p ≤ pm t) → (∀ h, h ≠ 175 → J2 h = J h) → (tabF J2 (min (max x kx) 143) (min (max y ky) 143) (Fr t p)) → (pm t - p) < fuel → (∀ (J2 : Nat → Nat → Int64), (∀ h, h ≠ 175 → J2 h = J h) → (tabF J2 (min (max x kx) 143) (min (max y ky) 143) (Fr t (pm t))) → am_A G mX4_reach X (am_rm 3 0 0) 100 [some (.ref 174), none, none, none, none] [] (215, kK, kR, I1, J2) 0 0) → am_A G mX4_reach X (am_rm 3 0 0) 60 [some (.ref 174), none, none, some (.ref 1), some (.int (iZ (p : Int)))] [] (215, kK, kR, I1, J2) 0 0 := by
      intro fuel
      induction fuel with
      | zero => intro p J2 hp hJ hz hfu hk; exact absurd hfu (Nat.not_lt_zero _)
      | succ fuel ih =>
        intro p J2 hp hJ hz hfu hk
        refine am_iload (q := 62) C dX4_reach_60 rfl rfl ?_
        refine am_aload_n (q := 63) C dX4_reach_62 rfl rfl ?_
        refine am_getIe (q := 66) (v := (iZ (pm t : Int))) C fb_X4_34 dX4_reach_63 rfl rfl kk_1 (show 1 < 215 by decide) (by rw [hI 1 (by decide)]; exact hA.1) ?_
        refine am_icmpZ_ge (q := 69) (tgt := 100) C dX4_reach_66 (by decide) rfl ⟨by omega, by omega⟩ ⟨by omega, by omega⟩ (fun e1 => ?_) (fun e1 => ?_)
        · refine am_wkA (L1 := [some (.ref 174), none, none, none, none]) ⟨rfl, trivial⟩ ?_
          exact hk _ hJ ((show p = pm t by omega) ▸ hz)
        · refine am_iload (q := 71) C dX4_reach_69 rfl rfl ?_
          refine am_bipush (q := 73) (v := iZ 6) C dX4_reach_71 rfl rfl ?_
          refine am_icmpZ_ge (q := 76) (tgt := 100) C dX4_reach_73 (by decide) rfl ⟨by omega, by omega⟩ ⟨by omega, by omega⟩ (fun e2 => ?_) (fun e2 => ?_)
          · refine am_wkA (L1 := [some (.ref 174), none, none, none, none]) ⟨rfl, trivial⟩ ?_
            exact hk _ hJ ((show p = pm t by omega) ▸ hz)
          · refine am_aload_n (q := 77) C dX4_reach_76 rfl rfl ?_
            refine am_aload_n (q := 78) C dX4_reach_77 rfl rfl ?_
            refine am_getR (q := 81) C fb_X4_39 dX4_reach_78 rfl rfl kk_1 (show 1 < 215 by decide) kr_1_0 ?_
            refine am_iload (q := 83) C dX4_reach_81 rfl rfl ?_
            refine am_ialoadZ (q := 84) p C dX4_reach_83 rfl kk_2 (show 2 < 215 by decide) rfl (by omega) (by decide) ?_
            refine am_intE (y := (iZ (pa t p : Int))) (by rw [hI 2 (by decide)]; exact (hA.2 p (by omega)).1) ?_
            refine am_aload_n (q := 85) C dX4_reach_84 rfl rfl ?_
            refine am_getR (q := 88) C fb_X4_43 dX4_reach_85 rfl rfl kk_1 (show 1 < 215 by decide) kr_1_1 ?_
            refine am_iload (q := 90) C dX4_reach_88 rfl rfl ?_
            refine am_ialoadZ (q := 91) p C dX4_reach_90 rfl kk_3 (show 3 < 215 by decide) rfl (by omega) (by decide) ?_
            refine am_intE (y := (iZ (pb t p : Int))) (by rw [hI 3 (by decide)]; exact (hA.2 p (by omega)).2.1) ?_
            refine am_callV (q := 94) (As := [.int (iZ (pa t p : Int)), .int (iZ (pb t p : Int))]) (rest := []) C mb_X4_add im_X4_add se_X4_add ml_X4_46 cb_4 kk_174 (show 174 < 215 by decide) dX4_reach_91 rfl (sp_X4_add hkn hz (hK.2 p (by omega)).1 (hK.2 p (by omega)).2.1 (hK.2 p (by omega)).2.2.1) rfl rfl ⟨by decide, by decide⟩ ⟨Nat.le_refl _, Nat.le_refl _⟩ (Nat.le_of_ble_eq_true rfl) (am_rv (fun w' hw' => ?_))
            obtain ⟨J3, rfl, hJ3, hT3⟩ := hw'
            refine am_iincZ (q := 97) (L' := [some (.ref 174), none, none, some (.ref 1), some (.int (iZ ((p + 1 : Nat) : Int)))]) C dX4_reach_94 rfl rfl (by omega) (by decide) rfl rfl ?_
            refine am_goto (q := 60) C dX4_reach_97 (by decide) ?_
            exact ih (p + 1) _ (by omega) (fun h hh => by rw [hJ3 h hh]; exact hJ h hh) hT3 (by omega) hk
    refine am_wkA (L1 := [some (.ref 174), none, none, some (.ref 1), some (.int (iZ 0))]) ⟨rfl, ⟨rfl, ⟨rfl, trivial⟩⟩⟩ ?_
    refine lp (pm t + 1) 0 _ (Nat.zero_le _) hJ1 hT1 (by omega) (fun J2 hJ hz => ?_)
    refine am_vret C T dX4_reach_100 rfl (Nat.le_refl _) (Nat.le_refl _) ⟨rfl, ?_⟩
    exact ⟨_, _, rfl, ⟨_, _, hkn, hz, by omega, by omega, by omega, by omega⟩, hI, hJ⟩
  · refine am_iload_n (q := 9) C dX4_reach_8 rfl rfl ?_
    refine am_aload_n (q := 10) C dX4_reach_9 rfl rfl ?_
    refine am_getIe (q := 13) (v := (iZ ky)) C fb_X4_19 dX4_reach_10 rfl rfl kk_174 (show 174 < 215 by decide) k2 ?_
    refine am_icmpZ_gt (q := 16) (tgt := 17) C dX4_reach_13 (by decide) rfl ⟨by omega, by omega⟩ ⟨by omega, by omega⟩ (fun c2 => ?_) (fun c2 => ?_)
    · refine am_aload_n (q := 18) C dX4_reach_17 rfl rfl ?_
      refine am_iload_n (q := 19) C dX4_reach_18 rfl rfl ?_
      refine am_aload_n (q := 20) C dX4_reach_19 rfl rfl ?_
      refine am_getIe (q := 23) (v := (iZ kx)) C fb_X4_15 dX4_reach_20 rfl rfl kk_174 (show 174 < 215 by decide) k1 ?_
      refine am_callS (q := 26) (As := [.int (iZ x), .int (iZ kx)]) (rest := [.ref 174]) C mb_J9_max_7cf53 st_J9_max_7cf53 ml_X4_22 dX4_reach_23 rfl (sp_max ⟨by omega, by omega⟩ ⟨by omega, by omega⟩) rfl rfl ⟨by decide, by decide⟩ ⟨Nat.le_refl _, Nat.le_refl _⟩ (Nat.le_of_ble_eq_true rfl) (am_rie ?_)
      refine am_sipush (q := 29) (v := iZ 143) C dX4_reach_26 rfl rfl ?_
      refine am_callS (q := 32) (As := [.int (iZ (max x kx)), .int (iZ 143)]) (rest := [.ref 174]) C mb_J9_min_7cf53 st_J9_min_7cf53 ml_X4_28 dX4_reach_29 rfl (sp_min ⟨by omega, by omega⟩ ⟨by omega, by omega⟩) rfl rfl ⟨by decide, by decide⟩ ⟨Nat.le_refl _, Nat.le_refl _⟩ (Nat.le_of_ble_eq_true rfl) (am_rie ?_)
      refine am_putI (q := 35) C fw_X4_15 dX4_reach_32 rfl rfl kk_174 (show 174 < 215 by decide) ?_
      refine am_aload_n (q := 36) C dX4_reach_35 rfl rfl ?_
      refine am_iload_n (q := 37) C dX4_reach_36 rfl rfl ?_
      refine am_aload_n (q := 38) C dX4_reach_37 rfl rfl ?_
      refine am_getIe (q := 41) (v := (iZ ky)) C fb_X4_19 dX4_reach_38 rfl rfl kk_174 (show 174 < 215 by decide) (by rw [am_up_ne _ _ _ _ (Or.inr (by decide))]; exact k2) ?_
      refine am_callS (q := 44) (As := [.int (iZ y), .int (iZ ky)]) (rest := [.ref 174]) C mb_J9_max_7cf53 st_J9_max_7cf53 ml_X4_22 dX4_reach_41 rfl (sp_max ⟨by omega, by omega⟩ ⟨by omega, by omega⟩) rfl rfl ⟨by decide, by decide⟩ ⟨Nat.le_refl _, Nat.le_refl _⟩ (Nat.le_of_ble_eq_true rfl) (am_rie ?_)
      refine am_sipush (q := 47) (v := iZ 143) C dX4_reach_44 rfl rfl ?_
      refine am_callS (q := 50) (As := [.int (iZ (max y ky)), .int (iZ 143)]) (rest := [.ref 174]) C mb_J9_min_7cf53 st_J9_min_7cf53 ml_X4_28 dX4_reach_47 rfl (sp_min ⟨by omega, by omega⟩ ⟨by omega, by omega⟩) rfl rfl ⟨by decide, by decide⟩ ⟨Nat.le_refl _, Nat.le_refl _⟩ (Nat.le_of_ble_eq_true rfl) (am_rie ?_)
      refine am_putI (q := 53) C fw_X4_19 dX4_reach_50 rfl rfl kk_174 (show 174 < 215 by decide) ?_
      refine am_aload_n (q := 54) C dX4_reach_53 rfl rfl ?_
      refine am_callV (q := 57) (As := []) (rest := []) C mb_X4_begin im_X4_begin se_X4_begin ml_X4_31 cb_4 kk_174 (show 174 < 215 by decide) dX4_reach_54 rfl (sp_X4_begin (kx := min (max x kx) 143) (ky := min (max y ky) 143) ⟨am_up_ne _ _ _ _ (Or.inr (by decide)) |>.trans (am_up_eq _ _ _ _), am_up_eq _ _ _ _, by omega, by omega, by omega, by omega⟩) rfl rfl ⟨by decide, by decide⟩ ⟨Nat.le_refl _, Nat.le_refl _⟩ (Nat.le_of_ble_eq_true rfl) (am_rv (fun w' hw' => ?_))
      obtain ⟨J1, rfl, hJ1, hT1⟩ := hw'
      have hI : ∀ h, h ≠ 174 → (am_up (am_up I 174 1 (iZ (min (max x kx) 143))) 174 2 (iZ (min (max y ky) 143))) h = I h := fun h hh => by rw [am_up_row _ _ _ _ hh, am_up_row _ _ _ _ hh]
      have hkn : knF (am_up (am_up I 174 1 (iZ (min (max x kx) 143))) 174 2 (iZ (min (max y ky) 143))) (min (max x kx) 143) (min (max y ky) 143) := ⟨am_up_ne _ _ _ _ (Or.inr (by decide)) |>.trans (am_up_eq _ _ _ _), am_up_eq _ _ _ _, by omega, by omega, by omega, by omega⟩
      generalize (am_up (am_up I 174 1 (iZ (min (max x kx) 143))) 174 2 (iZ (min (max y ky) 143))) = I1 at hI hkn ⊢
      refine am_iconst (q := 58) (v := iZ 0) C dX4_reach_57 rfl rfl ?_
      refine am_istore (q := 60) (L' := [some (.ref 174), some (.int (iZ x)), some (.int (iZ y)), some (.ref 1), some (.int (iZ 0))]) C dX4_reach_58 rfl (by decide) rfl rfl ?_
      have lp : ∀ (fuel : Nat) (p : Nat) (J2 : Nat → Nat → Int64), (p ≤ pm t) → (∀ h, h ≠ 175 → J2 h = J h) → (tabF J2 (min (max x kx) 143) (min (max y ky) 143) (Fr t p)) → (pm t - p) < fuel → (∀ (J2 : Nat → Nat → Int64), (∀ h, h ≠ 175 → J2 h = J h) → (tabF J2 (min (max x kx) 143) (min (max y ky) 143) (Fr t (pm t))) → am_A G mX4_reach X (am_rm 3 0 0) 100 [some (.ref 174), none, none, none, none] [] (215, kK, kR, I1, J2) 0 0) → am_A G mX4_reach X (am_rm 3 0 0) 60 [some (.ref 174), none, none, some (.ref 1), some (.int (iZ (p : Int)))] [] (215, kK, kR, I1, J2) 0 0 := by
        intro fuel
        induction fuel with
        | zero => intro p J2 hp hJ hz hfu hk; exact absurd hfu (Nat.not_lt_zero _)
        | succ fuel ih =>
          intro p J2 hp hJ hz hfu hk
          refine am_iload (q := 62) C dX4_reach_60 rfl rfl ?_
          refine am_aload_n (q := 63) C dX4_reach_62 rfl rfl ?_
          refine am_getIe (q := 66) (v := (iZ (pm t : Int))) C fb_X4_34 dX4_reach_63 rfl rfl kk_1 (show 1 < 215 by decide) (by rw [hI 1 (by decide)]; exact hA.1) ?_
          refine am_icmpZ_ge (q := 69) (tgt := 100) C dX4_reach_66 (by decide) rfl ⟨by omega, by omega⟩ ⟨by omega, by omega⟩ (fun e1 => ?_) (fun e1 => ?_)
          · refine am_wkA (L1 := [some (.ref 174), none, none, none, none]) ⟨rfl, trivial⟩ ?_
            exact hk _ hJ ((show p = pm t by omega) ▸ hz)
          · refine am_iload (q := 71) C dX4_reach_69 rfl rfl ?_
            refine am_bipush (q := 73) (v := iZ 6) C dX4_reach_71 rfl rfl ?_
            refine am_icmpZ_ge (q := 76) (tgt := 100) C dX4_reach_73 (by decide) rfl ⟨by omega, by omega⟩ ⟨by omega, by omega⟩ (fun e2 => ?_) (fun e2 => ?_)
            · refine am_wkA (L1 := [some (.ref 174), none, none, none, none]) ⟨rfl, trivial⟩ ?_
              exact hk _ hJ ((show p = pm t by omega) ▸ hz)
            · refine am_aload_n (q := 77) C dX4_reach_76 rfl rfl ?_
              refine am_aload_n (q := 78) C dX4_reach_77 rfl rfl ?_
              refine am_getR (q := 81) C fb_X4_39 dX4_reach_78 rfl rfl kk_1 (show 1 < 215 by decide) kr_1_0 ?_
              refine am_iload (q := 83) C dX4_reach_81 rfl rfl ?_
              refine am_ialoadZ (q := 84) p C dX4_reach_83 rfl kk_2 (show 2 < 215 by decide) rfl (by omega) (by decide) ?_
              refine am_intE (y := (iZ (pa t p : Int))) (by rw [hI 2 (by decide)]; exact (hA.2 p (by omega)).1) ?_
              refine am_aload_n (q := 85) C dX4_reach_84 rfl rfl ?_
              refine am_getR (q := 88) C fb_X4_43 dX4_reach_85 rfl rfl kk_1 (show 1 < 215 by decide) kr_1_1 ?_
              refine am_iload (q := 90) C dX4_reach_88 rfl rfl ?_
              refine am_ialoadZ (q := 91) p C dX4_reach_90 rfl kk_3 (show 3 < 215 by decide) rfl (by omega) (by decide) ?_
              refine am_intE (y := (iZ (pb t p : Int))) (by rw [hI 3 (by decide)]; exact (hA.2 p (by omega)).2.1) ?_
              refine am_callV (q := 94) (As := [.int (iZ (pa t p : Int)), .int (iZ (pb t p : Int))]) (rest := []) C mb_X4_add im_X4_add se_X4_add ml_X4_46 cb_4 kk_174 (show 174 < 215 by decide) dX4_reach_91 rfl (sp_X4_add hkn hz (hK.2 p (by omega)).1 (hK.2 p (by omega)).2.1 (hK.2 p (by omega)).2.2.1) rfl rfl ⟨by decide, by decide⟩ ⟨Nat.le_refl _, Nat.le_refl _⟩ (Nat.le_of_ble_eq_true rfl) (am_rv (fun w' hw' => ?_))
              obtain ⟨J3, rfl, hJ3, hT3⟩ := hw'
              refine am_iincZ (q := 97) (L' := [some (.ref 174), none, none, some (.ref 1), some (.int (iZ ((p + 1 : Nat) : Int)))]) C dX4_reach_94 rfl rfl (by omega) (by decide) rfl rfl ?_
              refine am_goto (q := 60) C dX4_reach_97 (by decide) ?_
              exact ih (p + 1) _ (by omega) (fun h hh => by rw [hJ3 h hh]; exact hJ h hh) hT3 (by omega) hk
      refine am_wkA (L1 := [some (.ref 174), none, none, some (.ref 1), some (.int (iZ 0))]) ⟨rfl, ⟨rfl, ⟨rfl, trivial⟩⟩⟩ ?_
      refine lp (pm t + 1) 0 _ (Nat.zero_le _) hJ1 hT1 (by omega) (fun J2 hJ hz => ?_)
      refine am_vret C T dX4_reach_100 rfl (Nat.le_refl _) (Nat.le_refl _) ⟨rfl, ?_⟩
      exact ⟨_, _, rfl, ⟨_, _, hkn, hz, by omega, by omega, by omega, by omega⟩, hI, hJ⟩
    · refine am_vret C T dX4_reach_16 rfl (Nat.le_refl _) (Nat.le_refl _) ⟨rfl, ?_⟩
      exact ⟨_, _, rfl, ⟨kx, ky, ⟨k1, k2, k3, k4, k5, k6⟩, hT, by omega, by omega, by omega, by omega⟩, fun h _ => rfl, fun h _ => rfl⟩
def agB (t : PT) (c x y : Nat) : Nat := if fmT t c (x : Int) (y : Int) = Frz t (x : Int) (y : Int) then 1 else 0
def agI (f : Nat → Nat) : Nat → Nat → Nat → Nat
  | 0, _, s => s
  | k + 1, y, s => agI f k (y + 1) (s + f y)
def agO (f : Nat → Nat → Nat) (n : Nat) : Nat → Nat → Nat → Nat
  | 0, _, s => s
  | k + 1, x, s => agO f n k (x + 1) (agI (f x) (n + 1) 0 s)
theorem agI_le {f : Nat → Nat} (h : ∀ y, f y ≤ 1) : ∀ k y s, agI f k y s ≤ s + k
  | 0, y, s => Nat.le_refl _
  | k + 1, y, s => by
    show agI f k (y + 1) (s + f y) ≤ _
    have h1 := agI_le h k (y + 1) (s + f y)
    have h2 := h y
    omega
theorem agB_le (t : PT) (c x y : Nat) : agB t c x y ≤ 1 := by unfold agB; split <;> omega
def agreesA (t : PT) (p n : Int) : Int := if ((2 ≤ (raysA t).length ∧ (perP t (pm t) : Int) ≤ 6) ∧ 0 ≤ p ∧ p < (((raysA t).length - 1 : Nat) : Int)) ∧ 0 ≤ n ∧ n ≤ 30 then (agO (agB t p.toNat) n.toNat (n.toNat + 1) 0 0 : Int) else -1
set_option maxRecDepth 4000 in
theorem sp_X10_agrees {σ : SG} (hC : atC I J σ) {p n : Int} (hp : rg p) (hn : rg n) : am_S G mX10_agrees 5 0 0 [.ref 0, .int (iZ p), .int (iZ n)] (215, kK, kR, I, J) (am_qi (fun v w' => v = iZ (agreesA σ.1 p n) ∧ ∃ (I' : Nat → Nat → Int32) (J' : Nat → Nat → Int64), w' = (215, kK, kR, I', J') ∧ atC I' J' (σ) ∧ frC I J I' J')) := by
  have hm := hC.2.1.1
  have hF := hC.2.2.1.1.1
  have hper := hC.2.2.1.1.2.2.2
  have hp1 := perP_ok hC.2.1 (pm σ.1) (Nat.le_refl _)
  have hp2 := per_le hp1
  have f2 := hF.2.1
  have f3 := hF.2.2
  refine am_spec (plainFor_of_name (by decide +kernel)) (Nat.le_of_ble_eq_true rfl) (L := [some (.ref 0), some (.int (iZ p)), some (.int (iZ n)), none, none, none]) rfl (fun X C T => ?_)
  refine am_aload_n (q := 1) C dX10_agrees_0 rfl rfl ?_
  refine am_iload_n (q := 2) C dX10_agrees_1 rfl rfl ?_
  refine am_callV (q := 5) (As := [.int (iZ p)]) (rest := []) C mb_X10_hasFormula im_X10_hasFormula se_X10_hasFormula ml_X10_223 cb_10 kk_0 (show 0 < 215 by decide) dX10_agrees_2 rfl (sp_X10_hasFormula hC hp) rfl rfl ⟨by decide, by decide⟩ ⟨Nat.le_refl _, Nat.le_refl _⟩ (Nat.le_of_ble_eq_true rfl) (am_rie ?_)
  refine am_ifB_eq (q := 8) (tgt := 18) C dX10_agrees_5 (by decide) rfl (fun c1 => ?_) (fun c1 => ?_)
  · refine am_iconst (q := 19) (v := iZ (-1)) C dX10_agrees_18 rfl rfl ?_
    refine am_iret C T dX10_agrees_19 rfl (Nat.le_refl _) (Nat.le_refl _) ⟨_, rfl, ?_⟩
    have e1 : agreesA σ.1 p n = -1 := if_neg (by omega)
    rw [e1]
    exact ⟨rfl, _, _, rfl, hC, frC_refl⟩
  · refine am_iload_n (q := 9) C dX10_agrees_8 rfl rfl ?_
    refine am_ifZ_lt (q := 12) (tgt := 18) C dX10_agrees_9 (by decide) rfl hn (fun c2 => ?_) (fun c2 => ?_)
    · refine am_iconst (q := 19) (v := iZ (-1)) C dX10_agrees_18 rfl rfl ?_
      refine am_iret C T dX10_agrees_19 rfl (Nat.le_refl _) (Nat.le_refl _) ⟨_, rfl, ?_⟩
      have e1 : agreesA σ.1 p n = -1 := if_neg (by omega)
      rw [e1]
      exact ⟨rfl, _, _, rfl, hC, frC_refl⟩
    · refine am_iload_n (q := 13) C dX10_agrees_12 rfl rfl ?_
      refine am_bipush (q := 15) (v := iZ 30) C dX10_agrees_13 rfl rfl ?_
      refine am_icmpZ_le (q := 18) (tgt := 20) C dX10_agrees_15 (by decide) rfl hn ⟨by omega, by omega⟩ (fun c3 => ?_) (fun c3 => ?_)
      · refine am_aload_n (q := 21) C dX10_agrees_20 rfl rfl ?_
        refine am_iload_n (q := 22) C dX10_agrees_21 rfl rfl ?_
        refine am_iload_n (q := 23) C dX10_agrees_22 rfl rfl ?_
        refine am_iload_n (q := 24) C dX10_agrees_23 rfl rfl ?_
        obtain ⟨q, rfl⟩ : ∃ q : Nat, p = q := ⟨p.toNat, by omega⟩
        obtain ⟨k, rfl⟩ : ∃ k : Nat, n = k := ⟨n.toNat, by omega⟩
        have hm2 := rays_2 (t := σ.1) (by omega)
        refine am_callV (As := [.int (iZ (q : Int)), .int (iZ (k : Int)), .int (iZ (k : Int))]) (rest := []) C mb_X10_readyFormula im_X10_readyFormula se_X10_readyFormula ml_X10_242 cb_10 kk_0 (show 0 < 215 by decide) dX10_agrees_24 rfl (sp_X10_readyFormula hC (q := q) (x := (k : Int)) (y := (k : Int)) (by omega) (by omega) (by omega) (by omega)) rfl rfl ⟨by decide, by decide⟩ ⟨Nat.le_refl _, Nat.le_refl _⟩ (Nat.le_of_ble_eq_true rfl) (am_rv (fun w' hw' => ?_))
        obtain ⟨I1, J1, rfl, hr1, hI1, hJ1⟩ := hw'
        have hC1 : atC I1 J1 σ := rdy_C hC hr1 hI1 hJ1
        obtain ⟨hL1, kx, ky, hkn1, hT1, hkx1, hky1⟩ := hr1
        refine am_aload_n (q := 28) C dX10_agrees_27 rfl rfl ?_
        refine am_getR (q := 31) C fb_X10_52 dX10_agrees_28 rfl rfl kk_0 (show 0 < 215 by decide) kr_0_6 ?_
        refine am_iload_n (q := 32) C dX10_agrees_31 rfl rfl ?_
        refine am_iload_n (q := 33) C dX10_agrees_32 rfl rfl ?_
        refine am_aload_n (q := 34) C dX10_agrees_33 rfl rfl ?_
        refine am_getR (q := 37) C fb_X10_14 dX10_agrees_34 rfl rfl kk_0 (show 0 < 215 by decide) kr_0_0 ?_
        refine am_callN (q := 40) (As := [.int (iZ (k : Int)), .int (iZ (k : Int)), .ref 1]) (rest := []) C mb_X4_reach im_X4_reach se_X4_reach mn_X10_178 cb_4 kk_174 (show 174 < 215 by decide) dX10_agrees_37 rfl (sp_X4_reachM hC1.1 hC1.2.1 hkn1 hT1 (x := (k : Int)) (y := (k : Int)) (by omega) (by omega)) rfl rfl ⟨by decide, by decide⟩ ⟨Nat.le_refl _, Nat.le_refl _⟩ (Nat.le_of_ble_eq_true rfl) (am_rv (fun w' hw' => ?_))
        obtain ⟨I2, J2, rfl, ⟨lx, ly, hkn, hT, hk1, hk2, hk3, hk4⟩, hI2, hJ2⟩ := hw'
        have hI3 : ∀ x, x ≠ 174 → x ≠ 180 → I2 x = I x := fun x h1 h2 => (hI2 x h1).trans (hI1 x h1 h2)
        have hJ3 : ∀ x, x ≠ 175 → J2 x = J x := fun x h1 => (hJ2 x h1).trans (hJ1 x h1)
        refine am_iconst (q := 41) (v := iZ 0) C dX10_agrees_40 rfl rfl ?_
        refine am_istore_n (q := 42) (L' := [some (.ref 0), some (.int (iZ (q : Int))), some (.int (iZ (k : Int))), some (.int (iZ 0)), none, none]) C dX10_agrees_41 rfl (by decide) rfl rfl ?_
        refine am_iconst (q := 43) (v := iZ 0) C dX10_agrees_42 rfl rfl ?_
        refine am_istore (q := 45) (L' := [some (.ref 0), some (.int (iZ (q : Int))), some (.int (iZ (k : Int))), some (.int (iZ 0)), some (.int (iZ 0)), none]) C dX10_agrees_43 rfl (by decide) rfl rfl ?_
        have li : ∀ (fuel : Nat) (x y s r : Nat) (I3 : Nat → Nat → Int32) (J3 : Nat → Nat → Int64), (x ≤ k) → (y ≤ k + 1) → (agI (agB σ.1 q x) (k + 1 - y) y s = r) → (∀ z, z ≠ 180 → I3 z = I2 z) → (∀ z, z ≠ 181 → J3 z = J2 z) → (k + 1 - y) < fuel → (∀ (I3 : Nat → Nat → Int32) (J3 : Nat → Nat → Int64), (∀ z, z ≠ 180 → I3 z = I2 z) → (∀ z, z ≠ 181 → J3 z = J2 z) → am_A G mX10_agrees X (am_rm 5 0 0) 120 [some (.ref 0), some (.int (iZ (q : Int))), some (.int (iZ (k : Int))), some (.int (iZ (r : Int))), some (.int (iZ (x : Int))), none] [] (215, kK, kR, I3, J3) 0 0) → am_A G mX10_agrees X (am_rm 5 0 0) 54 [some (.ref 0), some (.int (iZ (q : Int))), some (.int (iZ (k : Int))), some (.int (iZ (s : Int))), some (.int (iZ (x : Int))), some (.int (iZ (y : Int)))] [] (215, kK, kR, I3, J3) 0 0 := by
          intro fuel
          induction fuel with
          | zero => intro x y s r I3 J3 hx hy hq hI hJ hfu hk; exact absurd hfu (Nat.not_lt_zero _)
          | succ fuel ih =>
            intro x y s r I3 J3 hx hy hq hI hJ hfu hk
            refine am_iload (q := 56) C dX10_agrees_54 rfl rfl ?_
            refine am_iload_n (q := 57) C dX10_agrees_56 rfl rfl ?_
            refine am_icmpZ_gt (q := 60) (tgt := 120) C dX10_agrees_57 (by decide) rfl ⟨by omega, by omega⟩ ⟨by omega, by omega⟩ (fun e1 => ?_) (fun e1 => ?_)
            · refine am_wkA (L1 := [some (.ref 0), some (.int (iZ (q : Int))), some (.int (iZ (k : Int))), some (.int (iZ (s : Int))), some (.int (iZ (x : Int))), none]) ⟨rfl, ⟨rfl, ⟨rfl, ⟨rfl, ⟨rfl, trivial⟩⟩⟩⟩⟩ ?_
              rw [show k + 1 - y = 0 by omega] at hq
              rw [show s = r from hq]
              exact hk I3 J3 hI hJ
            · refine am_aload_n (q := 61) C dX10_agrees_60 rfl rfl ?_
              refine am_getR (q := 64) C fb_X10_73 dX10_agrees_61 rfl rfl kk_0 (show 0 < 215 by decide) kr_0_9 ?_
              refine am_aload_n (q := 65) C dX10_agrees_64 rfl rfl ?_
              refine am_getR (q := 68) C fb_X10_45 dX10_agrees_65 rfl rfl kk_0 (show 0 < 215 by decide) kr_0_5 ?_
              refine am_iload_n (q := 69) C dX10_agrees_68 rfl rfl ?_
              refine am_iload (q := 71) C dX10_agrees_69 rfl rfl ?_
              refine am_iload (q := 73) C dX10_agrees_71 rfl rfl ?_
              refine am_callN (q := 76) (As := [.ref 169, .int (iZ (q : Int)), .int (iZ (x : Int)), .int (iZ (y : Int))]) (rest := []) C mb_X3_locate im_X3_locate se_X3_locate mn_X10_226 cb_3 kk_180 (show 180 < 215 by decide) dX10_agrees_73 rfl (sp_X3_locate (c := q) (P := perP σ.1 (pm σ.1)) (x := (x : Int)) (y := (y : Int)) (hF.on (fun h hh => by rw [hI h (by omega), hI3 h (by omega) (by omega)])) (by omega) ⟨hp1.1, by omega⟩ (by rw [hI 169 (by omega), hI3 169 (by omega) (by omega)]; exact hper) (rays_D hC.2.1 (by omega)) (by omega) (by omega)) rfl rfl ⟨by decide, by decide⟩ ⟨Nat.le_refl _, Nat.le_refl _⟩ (Nat.le_of_ble_eq_true rfl) (am_rv (fun w' hw' => ?_))
              obtain ⟨I4, rfl, hL4, hI4⟩ := hw'
              obtain ⟨l1, l2, l3, l4, l5, l6, l7, l8⟩ := hL4
              have hkn4 : knF I4 lx ly := hkn.on (by rw [hI4 174 (by omega), hI 174 (by omega)])
              have hT4 : tabF J3 lx ly (Fr σ.1 (pm σ.1)) := fun x y h1 h2 => by rw [hJ 175 (by omega)]; exact hT x y h1 h2
              have hv := fm_hv hC.2.1 (c := q) (by omega) (by omega) (fun k hk => ⟨(f3 k hk).2.2.1, (f3 k hk).2.2.2⟩) hkn4 hT4 (Int.le_trans hkx1 hk3) (Int.le_trans hky1 hk4) (x : Int) (y : Int)
              have hij := lIJ_rg (c := q) (P := perP σ.1 (pm σ.1)) (x := (x : Int)) (y := (y : Int)) hp1.1 (rays_D hC.2.1 (by omega)) ⟨(f3 q (by omega)).2.2.1, (f3 q (by omega)).2.2.2⟩ ⟨(f3 (q + 1) (by omega)).2.2.1, (f3 (q + 1) (by omega)).2.2.2⟩ (by omega) (by omega)
              refine am_aload_n (q := 77) C dX10_agrees_76 rfl rfl ?_
              refine am_getR (q := 80) C fb_X10_73 dX10_agrees_77 rfl rfl kk_0 (show 0 < 215 by decide) kr_0_9 ?_
              refine am_aload_n (q := 81) C dX10_agrees_80 rfl rfl ?_
              refine am_getR (q := 84) C fb_X10_14 dX10_agrees_81 rfl rfl kk_0 (show 0 < 215 by decide) kr_0_0 ?_
              refine am_getIe (q := 87) (v := (iZ (pm σ.1 : Int))) C fb_X10_103 dX10_agrees_84 rfl rfl kk_1 (show 1 < 215 by decide) (by rw [hI4 1 (by omega), hI 1 (by omega), hI3 1 (by omega) (by omega)]; exact hC.1.1) ?_
              refine am_iconst (q := 88) (v := iZ 2) C dX10_agrees_87 rfl rfl ?_
              refine am_isubZ (q := 89) C dX10_agrees_88 rfl ?_
              refine am_aload_n (q := 90) C dX10_agrees_89 rfl rfl ?_
              refine am_getR (q := 93) C fb_X10_52 dX10_agrees_90 rfl rfl kk_0 (show 0 < 215 by decide) kr_0_6 ?_
              rw [show (pm σ.1 : Int) - 2 = ((pm σ.1 - 2 : Nat) : Int) by omega]
              refine am_callN (q := 96) (As := [.int (iZ ((pm σ.1 - 2 : Nat) : Int)), .ref 174]) (rest := []) C mb_X3_told im_X3_told se_X3_told mn_X10_253 cb_3 kk_180 (show 180 < 215 by decide) dX10_agrees_93 rfl (sp_X3_told (n := pm σ.1 - 2) (by omega) hkn4 l7 l8 l5 l6 l1 l2 l3 l4 hv hij.1 hij.2) rfl rfl ⟨by decide, by decide⟩ ⟨Nat.le_refl _, Nat.le_refl _⟩ (Nat.le_of_ble_eq_true rfl) (am_rl (fun v' w' hw' => ?_))
              obtain ⟨rfl, J4, rfl, hJ4⟩ := hw'
              refine am_longE (show _ = fmT σ.1 q (x : Int) (y : Int) from rfl) ?_
              have hT5 : tabF J4 lx ly (Fr σ.1 (pm σ.1)) := fun x y h1 h2 => by rw [hJ4 175 (by omega)]; exact hT4 x y h1 h2
              refine am_aload_n (q := 97) C dX10_agrees_96 rfl rfl ?_
              refine am_getR (q := 100) C fb_X10_52 dX10_agrees_97 rfl rfl kk_0 (show 0 < 215 by decide) kr_0_6 ?_
              refine am_iload (q := 102) C dX10_agrees_100 rfl rfl ?_
              refine am_iload (q := 104) C dX10_agrees_102 rfl rfl ?_
              refine am_callN (q := 107) (As := [.int (iZ (x : Int)), .int (iZ (y : Int))]) (rest := [.long (fmT σ.1 q (x : Int) (y : Int))]) C mb_X4_at im_X4_at se_X4_at mn_X10_179 cb_4 kk_174 (show 174 < 215 by decide) dX10_agrees_104 rfl (sp_X4_at hkn4 (x := (x : Int)) (y := (y : Int)) ⟨by omega, by omega⟩ ⟨by omega, by omega⟩) rfl rfl ⟨by decide, by decide⟩ ⟨Nat.le_refl _, Nat.le_refl _⟩ (Nat.le_of_ble_eq_true rfl) (am_rle ?_)
              refine am_longE (y := Frz σ.1 (x : Int) (y : Int)) (free_at hT5 (by omega) (by omega)) ?_
              refine am_lcmp (q := 108) C dX10_agrees_107 rfl ?_
              refine am_if_ne (q := 111) (tgt := 114) C dX10_agrees_108 (by decide) rfl (fun e2 => ?_) (fun e2 => ?_)
              · have e2 : ¬ (_) := fun z => e2 ((lg_cmp_eq (fmT σ.1 q (x : Int) (y : Int)) (Frz σ.1 (x : Int) (y : Int))).mpr z)
                refine am_iincZ (q := 117) (L' := [some (.ref 0), some (.int (iZ (q : Int))), some (.int (iZ (k : Int))), some (.int (iZ (s : Int))), some (.int (iZ (x : Int))), some (.int (iZ ((y + 1 : Nat) : Int)))]) C dX10_agrees_114 rfl rfl (by omega) (by decide) rfl rfl ?_
                refine am_goto (q := 54) C dX10_agrees_117 (by decide) ?_
                have eb : agB σ.1 q x y = 0 := if_neg (by assumption)
                refine ih x (y + 1) s r I4 J4 hx (by omega) ?_ (fun z hz => (hI4 z hz).trans (hI z hz)) (fun z hz => (hJ4 z hz).trans (hJ z hz)) (by omega) hk
                rw [← hq, show k + 1 - y = (k + 1 - (y + 1)) + 1 by omega]
                show _ = agI (agB σ.1 q x) (k + 1 - (y + 1)) (y + 1) (s + agB σ.1 q x y)
                rw [eb]
                rfl
              · have e2 := (lg_cmp_eq (fmT σ.1 q (x : Int) (y : Int)) (Frz σ.1 (x : Int) (y : Int))).mp e2
                refine am_iincZ (q := 114) (L' := [some (.ref 0), some (.int (iZ (q : Int))), some (.int (iZ (k : Int))), some (.int (iZ ((s + 1 : Nat) : Int))), some (.int (iZ (x : Int))), some (.int (iZ (y : Int)))]) C dX10_agrees_111 rfl rfl (by omega) (by decide) rfl rfl ?_
                refine am_iincZ (q := 117) (L' := [some (.ref 0), some (.int (iZ (q : Int))), some (.int (iZ (k : Int))), some (.int (iZ ((s + 1 : Nat) : Int))), some (.int (iZ (x : Int))), some (.int (iZ ((y + 1 : Nat) : Int)))]) C dX10_agrees_114 rfl rfl (by omega) (by decide) rfl rfl ?_
                refine am_goto (q := 54) C dX10_agrees_117 (by decide) ?_
                have eb : agB σ.1 q x y = 1 := if_pos (by assumption)
                refine ih x (y + 1) (s + 1) r I4 J4 hx (by omega) ?_ (fun z hz => (hI4 z hz).trans (hI z hz)) (fun z hz => (hJ4 z hz).trans (hJ z hz)) (by omega) hk
                rw [← hq, show k + 1 - y = (k + 1 - (y + 1)) + 1 by omega]
                show _ = agI (agB σ.1 q x) (k + 1 - (y + 1)) (y + 1) (s + agB σ.1 q x y)
                rw [eb]
        have lo : ∀ (fuel : Nat) (x s : Nat) (I3 : Nat → Nat → Int32) (J3 : Nat → Nat → Int64), (x ≤ k + 1) → (agO (agB σ.1 q) k (k + 1 - x) x s = agO (agB σ.1 q) k (k + 1) 0 0) → (∀ z, z ≠ 180 → I3 z = I2 z) → (∀ z, z ≠ 181 → J3 z = J2 z) → (k + 1 - x) < fuel → am_A G mX10_agrees X (am_rm 5 0 0) 45 [some (.ref 0), some (.int (iZ (q : Int))), some (.int (iZ (k : Int))), some (.int (iZ (s : Int))), some (.int (iZ (x : Int))), none] [] (215, kK, kR, I3, J3) 0 0 := by
          intro fuel
          induction fuel with
          | zero => intro x s I3 J3 hx hq hI hJ hf; exact absurd hf (Nat.not_lt_zero _)
          | succ fuel ih =>
            intro x s I3 J3 hx hq hI hJ hf
            refine am_iload (q := 47) C dX10_agrees_45 rfl rfl ?_
            refine am_iload_n (q := 48) C dX10_agrees_47 rfl rfl ?_
            refine am_icmpZ_gt (q := 51) (tgt := 126) C dX10_agrees_48 (by decide) rfl ⟨by omega, by omega⟩ ⟨by omega, by omega⟩ (fun g1 => ?_) (fun g1 => ?_)
            · refine am_iload_n (q := 127) C dX10_agrees_126 rfl rfl ?_
              refine am_iret C T dX10_agrees_127 rfl (Nat.le_refl _) (Nat.le_refl _) ⟨_, rfl, ?_⟩
              have e1 : agreesA σ.1 (q : Int) (k : Int) = (s : Int) := by
                unfold agreesA
                rw [if_pos (by omega), Int.toNat_natCast, Int.toNat_natCast, ← hq, show k + 1 - x = 0 by omega]
                rfl
              rw [e1]
              exact ⟨rfl, _, _, rfl, atC_loc hC ⟨lx, ly, hkn.on (hI 174 (by omega)), fun x y h1 h2 => by rw [hJ 175 (by omega)]; exact hT x y h1 h2⟩ (fun z h1 h2 => (hI z h2).trans (hI3 z h1 h2)) (fun z h1 h2 => (hJ z h2).trans (hJ3 z h1)), frC_loc (fun z h1 h2 => (hI z h2).trans (hI3 z h1 h2)) (fun z h1 h2 => (hJ z h2).trans (hJ3 z h1))⟩
            · refine am_iconst (q := 52) (v := iZ 0) C dX10_agrees_51 rfl rfl ?_
              refine am_istore (q := 54) (L' := [some (.ref 0), some (.int (iZ (q : Int))), some (.int (iZ (k : Int))), some (.int (iZ (s : Int))), some (.int (iZ (x : Int))), some (.int (iZ 0))]) C dX10_agrees_52 rfl (by decide) rfl rfl ?_
              refine li (k + 2) x 0 s (agI (agB σ.1 q x) (k + 1) 0 s) I3 J3 (by omega) (by omega) rfl hI hJ (by omega) (fun I3 J3 hI hJ => ?_)
              refine am_iincZ (q := 123) (L' := [some (.ref 0), some (.int (iZ (q : Int))), some (.int (iZ (k : Int))), some (.int (iZ (agI (agB σ.1 q x) (k + 1) 0 s : Int))), some (.int (iZ ((x + 1 : Nat) : Int))), none]) C dX10_agrees_120 rfl rfl (by omega) (by decide) rfl rfl ?_
              refine am_goto (q := 45) C dX10_agrees_123 (by decide) ?_
              refine ih (x + 1) (agI (agB σ.1 q x) (k + 1) 0 s) I3 J3 (by omega) ?_ hI hJ (by omega)
              rw [← hq, show k + 1 - x = (k + 1 - (x + 1)) + 1 by omega]
              rfl
        exact lo (k + 2) 0 0 I2 J2 (by omega) rfl (fun z _ => rfl) (fun z _ => rfl) (by omega)
      · refine am_iconst (q := 19) (v := iZ (-1)) C dX10_agrees_18 rfl rfl ?_
        refine am_iret C T dX10_agrees_19 rfl (Nat.le_refl _) (Nat.le_refl _) ⟨_, rfl, ?_⟩
        have e1 : agreesA σ.1 p n = -1 := if_neg (by omega)
        rw [e1]
        exact ⟨rfl, _, _, rfl, hC, frC_refl⟩
