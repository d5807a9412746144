variable {G : am_G} {I : Nat → Nat → Int32} {J : Nat → Nat → Int64}
set_option maxRecDepth 4000 in
theorem sp_X11_choose {n : Int} (hn : -10000 ≤ n ∧ n ≤ 10000) {k : Nat} (hk : k ≤ 4) : am_S G mX11_choose 1 0 0 [.int (iZ n), .int (iZ (k : Int))] (215, kK, kR, I, J) (am_fl (chs n k) (215, kK, kR, I, J)) := by
  refine am_spec (plainFor_of_name (by decide +kernel)) (Nat.le_of_ble_eq_true rfl) (L := [some (.int (iZ n)), some (.int (iZ (k : Int))), none, none, none]) rfl (fun X C T => ?_)
  have lp : ∀ (fuel : Nat) (i : Nat), (i ≤ k) → (k - i) < fuel → am_A G mX11_choose X (am_rm 1 0 0) 5 [some (.int (iZ n)), some (.int (iZ (k : Int))), some (.long (chs n i)), none, some (.int (iZ (i : Int)))] [] (215, kK, kR, I, J) 0 0 := by
    intro fuel
    induction fuel with
    | zero => intro i hi hf; exact absurd hf (Nat.not_lt_zero _)
    | succ fuel ih =>
      intro i hi hf
      refine am_iload (q := 7) C dX11_choose_5 rfl rfl ?_
      refine am_iload_n (q := 8) C dX11_choose_7 rfl rfl ?_
      refine am_icmpZ_ge (q := 11) (tgt := 31) C dX11_choose_8 (by decide) rfl ⟨by omega, by omega⟩ ⟨by omega, by omega⟩ (fun c1 => ?_) (fun c1 => ?_)
      · refine am_lload_n (q := 32) C dX11_choose_31 rfl rfl ?_
        refine am_lret C T dX11_choose_32 rfl (Nat.le_refl _) (Nat.le_refl _) ⟨_, rfl, ?_⟩
        rw [show k = i by omega]
        exact ⟨rfl, rfl⟩
      · refine am_lload_n (q := 12) C dX11_choose_11 rfl rfl ?_
        refine am_iload_n (q := 13) C dX11_choose_12 rfl rfl ?_
        refine am_iload (q := 15) C dX11_choose_13 rfl rfl ?_
        refine am_isubZ (q := 16) C dX11_choose_15 rfl ?_
        refine am_i2lZ (q := 17) C dX11_choose_16 rfl ⟨by omega, by omega⟩ ?_
        refine am_lmul (q := 18) C dX11_choose_17 rfl ?_
        refine am_iload (q := 20) C dX11_choose_18 rfl rfl ?_
        refine am_iconst (q := 21) (v := iZ 1) C dX11_choose_20 rfl rfl ?_
        refine am_iaddZ (q := 22) C dX11_choose_21 rfl ?_
        refine am_i2lZ (q := 23) C dX11_choose_22 rfl ⟨by omega, by omega⟩ ?_
        refine am_ldiv (q := 24) C dX11_choose_23 rfl (k1_nz (k := i) (by omega)) ?_
        refine am_lstore_n (q := 25) (L' := [some (.int (iZ n)), some (.int (iZ (k : Int))), some (.long (((chs n i) * (Int64.ofInt (n - (i : Int)))) / (Int64.ofInt ((i : Int) + 1)))), none, some (.int (iZ (i : Int)))]) C dX11_choose_24 rfl (by decide) rfl rfl ?_
        refine am_iincZ (q := 28) (L' := [some (.int (iZ n)), some (.int (iZ (k : Int))), some (.long (((chs n i) * (Int64.ofInt (n - (i : Int)))) / (Int64.ofInt ((i : Int) + 1)))), none, some (.int (iZ ((i + 1 : Nat) : Int)))]) C dX11_choose_25 rfl rfl (by omega) (by decide) rfl rfl ?_
        refine am_goto (q := 5) C dX11_choose_28 (by decide) ?_
        exact ih (i + 1) (by omega) (by omega)
  refine am_lconst (q := 1) (v := lN 1) C dX11_choose_0 rfl rfl ?_
  refine am_lstore_n (q := 2) (L' := [some (.int (iZ n)), some (.int (iZ (k : Int))), some (.long (lN 1)), none, none]) C dX11_choose_1 rfl (by decide) rfl rfl ?_
  refine am_iconst (q := 3) (v := iZ 0) C dX11_choose_2 rfl rfl ?_
  refine am_istore (q := 5) (L' := [some (.int (iZ n)), some (.int (iZ (k : Int))), some (.long (lN 1)), none, some (.int (iZ 0))]) C dX11_choose_3 rfl (by decide) rfl rfl ?_
  exact lp (k + 1) 0 (Nat.zero_le _) (by omega)
theorem fm_rg {t : PT} (h : okP t) {c : Nat} (hc : c + 1 < (raysA t).length) (hP : perP t (pm t) ≤ 6) (x y : Int) : ∀ u q : Nat, u + q ≤ pm t - 2 → (0 ≤ hX (raysA t) (perP t (pm t)) c x y + (u : Int) * ((perP t (pm t) : Int) * (ra (raysA t) c : Int)) + (q : Int) * ((perP t (pm t) : Int) * (ra (raysA t) (c + 1) : Int)) ∧ hX (raysA t) (perP t (pm t)) c x y + (u : Int) * ((perP t (pm t) : Int) * (ra (raysA t) c : Int)) + (q : Int) * ((perP t (pm t) : Int) * (ra (raysA t) (c + 1) : Int)) ≤ 143) ∧ 0 ≤ hY (raysA t) (perP t (pm t)) c x y + (u : Int) * ((perP t (pm t) : Int) * (rb (raysA t) c : Int)) + (q : Int) * ((perP t (pm t) : Int) * (rb (raysA t) (c + 1) : Int)) ∧ hY (raysA t) (perP t (pm t)) c x y + (u : Int) * ((perP t (pm t) : Int) * (rb (raysA t) c : Int)) + (q : Int) * ((perP t (pm t) : Int) * (rb (raysA t) (c + 1) : Int)) ≤ 143 := by
  intro u q huq
  have hp := perP_ok h (pm t) (Nat.le_refl _)
  have hm := h.1
  obtain ⟨g1, g2⟩ := home_in hp.1 (rays_D h hc) x y
  have f1 := ray_le h (k := c) (by omega)
  have f2 := ray_le h hc
  have b1 : perP t (pm t) * ra (raysA t) c ≤ 6 * 4 := Nat.mul_le_mul hP f1.1
  have b2 : perP t (pm t) * ra (raysA t) (c + 1) ≤ 6 * 4 := Nat.mul_le_mul hP f2.1
  have b3 : perP t (pm t) * rb (raysA t) c ≤ 6 * 4 := Nat.mul_le_mul hP f1.2
  have b4 : perP t (pm t) * rb (raysA t) (c + 1) ≤ 6 * 4 := Nat.mul_le_mul hP f2.2
  have e1 : (perP t (pm t) : Int) * (ra (raysA t) c : Int) = ((perP t (pm t) * ra (raysA t) c : Nat) : Int) := by simp
  have e2 : (perP t (pm t) : Int) * (ra (raysA t) (c + 1) : Int) = ((perP t (pm t) * ra (raysA t) (c + 1) : Nat) : Int) := by simp
  have e3 : (perP t (pm t) : Int) * (rb (raysA t) c : Int) = ((perP t (pm t) * rb (raysA t) c : Nat) : Int) := by simp
  have e4 : (perP t (pm t) : Int) * (rb (raysA t) (c + 1) : Int) = ((perP t (pm t) * rb (raysA t) (c + 1) : Nat) : Int) := by simp
  rw [e1, e2] at g1 ⊢
  rw [e3, e4] at g2 ⊢
  have r1 := far_in (k := 143) huq (show pm t - 2 ≤ 4 by omega) b1 b2 g1 (by omega)
  have r2 := far_in (k := 143) huq (show pm t - 2 ≤ 4 by omega) b3 b4 g2 (by omega)
  exact ⟨⟨r1.1, r1.2.2⟩, r2.1, r2.2.2⟩
theorem far_eq (h P u a v c : Int) : h + P * (u * a + v * c) = h + u * (P * a) + v * (P * c) := by grind
set_option maxRecDepth 8000 in
theorem sp_X11_differenceAt {t : PT} (hK : okP t) {c : Nat} (hc : c + 1 < (raysA t).length) (hP : perP t (pm t) ≤ 6) {x y : Int} (hgo : goM I (raysA t) (perP t (pm t)) c x y) (hT : tabG J 149 149 (Fr t (pm t))) {g h : Nat} (hgh : g + h ≤ pm t - 2) : am_S G mX11_differenceAt 2 0 0 [.ref 191, .int (iZ (g : Int)), .int (iZ (h : Int))] (215, kK, kR, I, J) (am_fl (dsM (fmF t c x y) g h) (215, kK, kR, I, J)) := by
  have hm := hK.1
  obtain ⟨o1, o2, o3, o4, o5, o6, o7, o8, o9⟩ := hgo
  refine am_spec (plainFor_of_name (by decide +kernel)) (Nat.le_of_ble_eq_true rfl) (L := [some (.ref 191), some (.int (iZ (g : Int))), some (.int (iZ (h : Int))), none, none, none, none, none, none]) rfl (fun X C T => ?_)
  have i1 : ∀ (fuel : Nat) (u v : Nat) (s r : Int64), (u ≤ g) → (v ≤ h + 1) → (lpS (fun v => dterm (fmF t c x y) g h u v) (h + 1 - v) v s = r) → (h + 1 - v) < fuel → (am_A G mX11_differenceAt X (am_rm 2 0 0) 121 [some (.ref 191), some (.int (iZ (g : Int))), some (.int (iZ (h : Int))), some (.long r), none, some (.int (iZ (u : Int))), none, none, none] [] (215, kK, kR, I, J) 0 0) → am_A G mX11_differenceAt X (am_rm 2 0 0) 14 [some (.ref 191), some (.int (iZ (g : Int))), some (.int (iZ (h : Int))), some (.long s), none, some (.int (iZ (u : Int))), some (.int (iZ (v : Int))), none, none] [] (215, kK, kR, I, J) 0 0 := by
    intro fuel
    induction fuel with
    | zero => intro u v s r hu hv hs hfu hk9; exact absurd hfu (Nat.not_lt_zero _)
    | succ fuel ih =>
      intro u v s r hu hv hs hfu hk9
      have hrg := fun (h9 : v ≤ h) => fm_rg hK hc hP x y u v (by omega)
      refine am_iload (q := 16) C dX11_differenceAt_14 rfl rfl ?_
      refine am_iload_n (q := 17) C dX11_differenceAt_16 rfl rfl ?_
      refine am_icmpZ_gt (q := 20) (tgt := 121) C dX11_differenceAt_17 (by decide) rfl ⟨by omega, by omega⟩ ⟨by omega, by omega⟩ (fun c3 => ?_) (fun c3 => ?_)
      · refine am_wkA (L1 := [some (.ref 191), some (.int (iZ (g : Int))), some (.int (iZ (h : Int))), some (.long s), none, some (.int (iZ (u : Int))), none, none, none]) ⟨rfl, ⟨rfl, ⟨rfl, ⟨rfl, ⟨rfl, trivial⟩⟩⟩⟩⟩ ?_
        rw [show h + 1 - v = 0 by omega, lpS_0] at hs
        rw [← hs] at hk9
        exact hk9
      · have hrg := hrg (by omega)
        refine am_iload_n (q := 21) C dX11_differenceAt_20 rfl rfl ?_
        refine am_iload (q := 23) C dX11_differenceAt_21 rfl rfl ?_
        refine am_callS (q := 26) (As := [.int (iZ (g : Int)), .int (iZ (u : Int))]) (rest := []) C mb_X11_choose st_X11_choose ml_X11_290 dX11_differenceAt_23 rfl (sp_X11_choose (n := (g : Int)) (by omega) (by omega)) rfl rfl ⟨by decide, by decide⟩ ⟨Nat.le_refl _, Nat.le_refl _⟩ (Nat.le_of_ble_eq_true rfl) (am_rle ?_)
        refine am_iload_n (q := 27) C dX11_differenceAt_26 rfl rfl ?_
        refine am_iload (q := 29) C dX11_differenceAt_27 rfl rfl ?_
        refine am_callS (q := 32) (As := [.int (iZ (h : Int)), .int (iZ (v : Int))]) (rest := [.long (chs (g : Int) u)]) C mb_X11_choose st_X11_choose ml_X11_290 dX11_differenceAt_29 rfl (sp_X11_choose (n := (h : Int)) (by omega) (by omega)) rfl rfl ⟨by decide, by decide⟩ ⟨Nat.le_refl _, Nat.le_refl _⟩ (Nat.le_of_ble_eq_true rfl) (am_rle ?_)
        refine am_lmul (q := 33) C dX11_differenceAt_32 rfl ?_
        refine am_aload_n (q := 34) C dX11_differenceAt_33 rfl rfl ?_
        refine am_aload_n (q := 35) C dX11_differenceAt_34 rfl rfl ?_
        refine am_getIe (q := 38) (v := (iZ (hX (raysA t) (perP t (pm t)) c x y))) C fb_X11_274 dX11_differenceAt_35 rfl rfl kk_191 (show 191 < 215 by decide) o8 ?_
        refine am_aload_n (q := 39) C dX11_differenceAt_38 rfl rfl ?_
        refine am_getIe (q := 42) (v := (iZ (perP t (pm t) : Int))) C fb_X11_262 dX11_differenceAt_39 rfl rfl kk_191 (show 191 < 215 by decide) o5 ?_
        refine am_iload (q := 44) C dX11_differenceAt_42 rfl rfl ?_
        refine am_aload_n (q := 45) C dX11_differenceAt_44 rfl rfl ?_
        refine am_getIe (q := 48) (v := (iZ (ra (raysA t) c : Int))) C fb_X11_237 dX11_differenceAt_45 rfl rfl kk_191 (show 191 < 215 by decide) o1 ?_
        refine am_imulZ (q := 49) C dX11_differenceAt_48 rfl ?_
        refine am_iload (q := 51) C dX11_differenceAt_49 rfl rfl ?_
        refine am_aload_n (q := 52) C dX11_differenceAt_51 rfl rfl ?_
        refine am_getIe (q := 55) (v := (iZ (ra (raysA t) (c + 1) : Int))) C fb_X11_243 dX11_differenceAt_52 rfl rfl kk_191 (show 191 < 215 by decide) o3 ?_
        refine am_imulZ (q := 56) C dX11_differenceAt_55 rfl ?_
        refine am_iaddZ (q := 57) C dX11_differenceAt_56 rfl ?_
        refine am_imulZ (q := 58) C dX11_differenceAt_57 rfl ?_
        refine am_iaddZ (q := 59) C dX11_differenceAt_58 rfl ?_
        refine am_intE (y := (iZ (hX (raysA t) (perP t (pm t)) c x y + (u : Int) * ((perP t (pm t) : Int) * (ra (raysA t) c : Int)) + (v : Int) * ((perP t (pm t) : Int) * (ra (raysA t) (c + 1) : Int))))) (congrArg iZ (far_eq _ _ _ _ _ _)) ?_
        refine am_aload_n (q := 60) C dX11_differenceAt_59 rfl rfl ?_
        refine am_getIe (q := 63) (v := (iZ (hY (raysA t) (perP t (pm t)) c x y))) C fb_X11_277 dX11_differenceAt_60 rfl rfl kk_191 (show 191 < 215 by decide) o9 ?_
        refine am_aload_n (q := 64) C dX11_differenceAt_63 rfl rfl ?_
        refine am_getIe (q := 67) (v := (iZ (perP t (pm t) : Int))) C fb_X11_262 dX11_differenceAt_64 rfl rfl kk_191 (show 191 < 215 by decide) o5 ?_
        refine am_iload (q := 69) C dX11_differenceAt_67 rfl rfl ?_
        refine am_aload_n (q := 70) C dX11_differenceAt_69 rfl rfl ?_
        refine am_getIe (q := 73) (v := (iZ (rb (raysA t) c : Int))) C fb_X11_240 dX11_differenceAt_70 rfl rfl kk_191 (show 191 < 215 by decide) o2 ?_
        refine am_imulZ (q := 74) C dX11_differenceAt_73 rfl ?_
        refine am_iload (q := 76) C dX11_differenceAt_74 rfl rfl ?_
        refine am_aload_n (q := 77) C dX11_differenceAt_76 rfl rfl ?_
        refine am_getIe (q := 80) (v := (iZ (rb (raysA t) (c + 1) : Int))) C fb_X11_246 dX11_differenceAt_77 rfl rfl kk_191 (show 191 < 215 by decide) o4 ?_
        refine am_imulZ (q := 81) C dX11_differenceAt_80 rfl ?_
        refine am_iaddZ (q := 82) C dX11_differenceAt_81 rfl ?_
        refine am_imulZ (q := 83) C dX11_differenceAt_82 rfl ?_
        refine am_iaddZ (q := 84) C dX11_differenceAt_83 rfl ?_
        refine am_intE (y := (iZ (hY (raysA t) (perP t (pm t)) c x y + (u : Int) * ((perP t (pm t) : Int) * (rb (raysA t) c : Int)) + (v : Int) * ((perP t (pm t) : Int) * (rb (raysA t) (c + 1) : Int))))) (congrArg iZ (far_eq _ _ _ _ _ _)) ?_
        refine am_callV (q := 87) (As := [.int (iZ (hX (raysA t) (perP t (pm t)) c x y + (u : Int) * ((perP t (pm t) : Int) * (ra (raysA t) c : Int)) + (v : Int) * ((perP t (pm t) : Int) * (ra (raysA t) (c + 1) : Int)))), .int (iZ (hY (raysA t) (perP t (pm t)) c x y + (u : Int) * ((perP t (pm t) : Int) * (rb (raysA t) c : Int)) + (v : Int) * ((perP t (pm t) : Int) * (rb (raysA t) (c + 1) : Int))))]) (rest := [.long ((chs (g : Int) u) * (chs (h : Int) v))]) C mb_X11_freeAt im_X11_freeAt se_X11_freeAt ml_X11_195 cb_11 kk_191 (show 191 < 215 by decide) dX11_differenceAt_84 rfl (sp_X11_freeAt (cx := 149) (cy := 149) (by omega) (by omega) hT (x := hX (raysA t) (perP t (pm t)) c x y + (u : Int) * ((perP t (pm t) : Int) * (ra (raysA t) c : Int)) + (v : Int) * ((perP t (pm t) : Int) * (ra (raysA t) (c + 1) : Int))) (y := hY (raysA t) (perP t (pm t)) c x y + (u : Int) * ((perP t (pm t) : Int) * (rb (raysA t) c : Int)) + (v : Int) * ((perP t (pm t) : Int) * (rb (raysA t) (c + 1) : Int))) ⟨by omega, by omega⟩ ⟨by omega, by omega⟩ (by omega) (by omega)) rfl rfl ⟨by decide, by decide⟩ ⟨Nat.le_refl _, Nat.le_refl _⟩ (Nat.le_of_ble_eq_true rfl) (am_rle ?_)
        refine am_longE (show _ = fmF t c x y u v from rfl) ?_
        refine am_lmul (q := 88) C dX11_differenceAt_87 rfl ?_
        refine am_lstore (q := 90) (L' := [some (.ref 191), some (.int (iZ (g : Int))), some (.int (iZ (h : Int))), some (.long s), none, some (.int (iZ (u : Int))), some (.int (iZ (v : Int))), some (.long (((chs (g : Int) u) * (chs (h : Int) v)) * (fmF t c x y u v))), none]) C dX11_differenceAt_88 rfl (by decide) rfl rfl ?_
        refine am_lload_n (q := 91) C dX11_differenceAt_90 rfl rfl ?_
        refine am_iload_n (q := 92) C dX11_differenceAt_91 rfl rfl ?_
        refine am_iload (q := 94) C dX11_differenceAt_92 rfl rfl ?_
        refine am_isubZ (q := 95) C dX11_differenceAt_94 rfl ?_
        refine am_iload_n (q := 96) C dX11_differenceAt_95 rfl rfl ?_
        refine am_iaddZ (q := 97) C dX11_differenceAt_96 rfl ?_
        refine am_iload (q := 99) C dX11_differenceAt_97 rfl rfl ?_
        refine am_isubZ (q := 100) C dX11_differenceAt_99 rfl ?_
        refine am_iconst (q := 101) (v := iZ 2) C dX11_differenceAt_100 rfl rfl ?_
        refine am_iremZ (q := 102) C dX11_differenceAt_101 rfl ⟨by omega, by omega⟩ ⟨by omega, by omega⟩ (by omega) (by omega) ?_
        refine am_intE (y := (iZ (((g - u + (h - v)) % 2 : Nat) : Int))) (congrArg iZ (by rw [show (g : Int) - (u : Int) + (h : Int) - (v : Int) = ((g - u + (h - v) : Nat) : Int) by omega]; rfl)) ?_
        refine am_ifZ_ne (q := 105) (tgt := 110) C dX11_differenceAt_102 (by decide) rfl ⟨by omega, by omega⟩ (fun c4 => ?_) (fun c4 => ?_)
        · refine am_lload (q := 112) C dX11_differenceAt_110 rfl rfl ?_
          refine am_lneg (q := 113) C dX11_differenceAt_112 rfl ?_
          refine am_ladd (q := 114) C dX11_differenceAt_113 rfl ?_
          refine am_lstore_n (q := 115) (L' := [some (.ref 191), some (.int (iZ (g : Int))), some (.int (iZ (h : Int))), some (.long (s + (-(((chs (g : Int) u) * (chs (h : Int) v)) * (fmF t c x y u v))))), none, some (.int (iZ (u : Int))), some (.int (iZ (v : Int))), some (.long (((chs (g : Int) u) * (chs (h : Int) v)) * (fmF t c x y u v))), none]) C dX11_differenceAt_114 rfl (by decide) rfl rfl ?_
          refine am_iincZ (q := 118) (L' := [some (.ref 191), some (.int (iZ (g : Int))), some (.int (iZ (h : Int))), some (.long (s + (-(((chs (g : Int) u) * (chs (h : Int) v)) * (fmF t c x y u v))))), none, some (.int (iZ (u : Int))), some (.int (iZ ((v + 1 : Nat) : Int))), some (.long (((chs (g : Int) u) * (chs (h : Int) v)) * (fmF t c x y u v))), none]) C dX11_differenceAt_115 rfl rfl (by omega) (by decide) rfl rfl ?_
          refine am_goto (q := 14) C dX11_differenceAt_118 (by decide) ?_
          refine am_wkA (L1 := [some (.ref 191), some (.int (iZ (g : Int))), some (.int (iZ (h : Int))), some (.long (s + (-(((chs (g : Int) u) * (chs (h : Int) v)) * (fmF t c x y u v))))), none, some (.int (iZ (u : Int))), some (.int (iZ ((v + 1 : Nat) : Int))), none, none]) ⟨rfl, ⟨rfl, ⟨rfl, ⟨rfl, ⟨rfl, ⟨rfl, trivial⟩⟩⟩⟩⟩⟩ ?_
          have e9 : dterm (fmF t c x y) g h u v = -(chs (g : Int) u * chs (h : Int) v * fmF t c x y u v) := by
            unfold dterm
            exact if_neg (by omega)
          refine ih u (v + 1) _ r hu (by omega) ?_ (by omega) hk9
          rw [← hs, show h + 1 - v = (h + 1 - (v + 1)) + 1 by omega, lpS_1, e9]
        · refine am_lload (q := 107) C dX11_differenceAt_105 rfl rfl ?_
          refine am_goto (q := 113) C dX11_differenceAt_107 (by decide) ?_
          refine am_ladd (q := 114) C dX11_differenceAt_113 rfl ?_
          refine am_lstore_n (q := 115) (L' := [some (.ref 191), some (.int (iZ (g : Int))), some (.int (iZ (h : Int))), some (.long (s + (((chs (g : Int) u) * (chs (h : Int) v)) * (fmF t c x y u v)))), none, some (.int (iZ (u : Int))), some (.int (iZ (v : Int))), some (.long (((chs (g : Int) u) * (chs (h : Int) v)) * (fmF t c x y u v))), none]) C dX11_differenceAt_114 rfl (by decide) rfl rfl ?_
          refine am_iincZ (q := 118) (L' := [some (.ref 191), some (.int (iZ (g : Int))), some (.int (iZ (h : Int))), some (.long (s + (((chs (g : Int) u) * (chs (h : Int) v)) * (fmF t c x y u v)))), none, some (.int (iZ (u : Int))), some (.int (iZ ((v + 1 : Nat) : Int))), some (.long (((chs (g : Int) u) * (chs (h : Int) v)) * (fmF t c x y u v))), none]) C dX11_differenceAt_115 rfl rfl (by omega) (by decide) rfl rfl ?_
          refine am_goto (q := 14) C dX11_differenceAt_118 (by decide) ?_
          refine am_wkA (L1 := [some (.ref 191), some (.int (iZ (g : Int))), some (.int (iZ (h : Int))), some (.long (s + (((chs (g : Int) u) * (chs (h : Int) v)) * (fmF t c x y u v)))), none, some (.int (iZ (u : Int))), some (.int (iZ ((v + 1 : Nat) : Int))), none, none]) ⟨rfl, ⟨rfl, ⟨rfl, ⟨rfl, ⟨rfl, ⟨rfl, trivial⟩⟩⟩⟩⟩⟩ ?_
          have e9 : dterm (fmF t c x y) g h u v = chs (g : Int) u * chs (h : Int) v * fmF t c x y u v := by
            unfold dterm
            exact if_pos (by omega)
          refine ih u (v + 1) _ r hu (by omega) ?_ (by omega) hk9
          rw [← hs, show h + 1 - v = (h + 1 - (v + 1)) + 1 by omega, lpS_1, e9]
  have o1 : ∀ (fuel : Nat) (u : Nat) (s : Int64), (u ≤ g + 1) → (dsO (fmF t c x y) g h (g + 1 - u) u s = dsM (fmF t c x y) g h) → (g + 1 - u) < fuel → am_A G mX11_differenceAt X (am_rm 2 0 0) 5 [some (.ref 191), some (.int (iZ (g : Int))), some (.int (iZ (h : Int))), some (.long s), none, some (.int (iZ (u : Int))), none, none, none] [] (215, kK, kR, I, J) 0 0 := by
    intro fuel
    induction fuel with
    | zero => intro u s hu hs hf; exact absurd hf (Nat.not_lt_zero _)
    | succ fuel ih =>
      intro u s hu hs hf
      refine am_iload (q := 7) C dX11_differenceAt_5 rfl rfl ?_
      refine am_iload_n (q := 8) C dX11_differenceAt_7 rfl rfl ?_
      refine am_icmpZ_gt (q := 11) (tgt := 127) C dX11_differenceAt_8 (by decide) rfl ⟨by omega, by omega⟩ ⟨by omega, by omega⟩ (fun e1 => ?_) (fun e1 => ?_)
      · refine am_lload_n (q := 128) C dX11_differenceAt_127 rfl rfl ?_
        refine am_lret C T dX11_differenceAt_128 rfl (Nat.le_refl _) (Nat.le_refl _) ⟨_, rfl, ?_⟩
        rw [show g + 1 - u = 0 by omega, dsO_0] at hs
        exact ⟨hs, rfl⟩
      · refine am_iconst (q := 12) (v := iZ 0) C dX11_differenceAt_11 rfl rfl ?_
        refine am_istore (q := 14) (L' := [some (.ref 191), some (.int (iZ (g : Int))), some (.int (iZ (h : Int))), some (.long s), none, some (.int (iZ (u : Int))), some (.int (iZ 0)), none, none]) C dX11_differenceAt_12 rfl (by decide) rfl rfl ?_
        refine i1 (h + 2) u 0 s (lpS (fun v => dterm (fmF t c x y) g h u v) (h + 1) 0 s) (by omega) (by omega) rfl (by omega) ?_
        refine am_iincZ (q := 124) (L' := [some (.ref 191), some (.int (iZ (g : Int))), some (.int (iZ (h : Int))), some (.long (lpS (fun v => dterm (fmF t c x y) g h u v) (h + 1) 0 s)), none, some (.int (iZ ((u + 1 : Nat) : Int))), none, none, none]) C dX11_differenceAt_121 rfl rfl (by omega) (by decide) rfl rfl ?_
        refine am_goto (q := 5) C dX11_differenceAt_124 (by decide) ?_
        refine ih (u + 1) _ (by omega) ?_ (by omega)
        rw [← hs, show g + 1 - u = (g + 1 - (u + 1)) + 1 by omega, dsO_1]
  refine am_lconst (q := 1) (v := lN 0) C dX11_differenceAt_0 rfl rfl ?_
  refine am_lstore_n (q := 2) (L' := [some (.ref 191), some (.int (iZ (g : Int))), some (.int (iZ (h : Int))), some (.long (lN 0)), none, none, none, none, none]) C dX11_differenceAt_1 rfl (by decide) rfl rfl ?_
  refine am_iconst (q := 3) (v := iZ 0) C dX11_differenceAt_2 rfl rfl ?_
  refine am_istore (q := 5) (L' := [some (.ref 191), some (.int (iZ (g : Int))), some (.int (iZ (h : Int))), some (.long (lN 0)), none, some (.int (iZ 0)), none, none, none]) C dX11_differenceAt_3 rfl (by decide) rfl rfl ?_
  exact o1 (g + 2) 0 0 (by omega) rfl (by omega)
set_option maxRecDepth 8000 in
theorem sp_X11_formulaAt {t : PT} (hA : atQ I J t) (hK : okP t) {c : Nat} (hc : c + 1 < (raysA t).length) (hP : perP t (pm t) ≤ 6) (hR : rayM I t) (hper : I 191 37 = iZ (perP t (pm t) : Int)) (hT : tabG J 149 149 (Fr t (pm t))) {x y : Int} (hx : -60 ≤ x ∧ x ≤ 60) (hy : -60 ≤ y ∧ y ≤ 60) : am_S G mX11_formulaAt 3 0 0 [.ref 191, .int (iZ (c : Int)), .int (iZ x), .int (iZ y)] (215, kK, kR, I, J) (am_ql (fun v w' => v = fmM t c x y ∧ ∃ I' : Nat → Nat → Int32, w' = (215, kK, kR, I', J) ∧ I' 191 37 = iZ (perP t (pm t) : Int) ∧ (∀ k, k < 33 → I' 191 k = I 191 k) ∧ ∀ h, h ≠ 191 → I' h = I h)) := by
  have hm := hK.1
  have hlen : (raysA t).length ≤ pm t := raysP_len t (pm t)
  have hp1 := perP_ok hK (pm t) (Nat.le_refl _)
  refine am_spec (plainFor_of_name (by decide +kernel)) (Nat.le_of_ble_eq_true rfl) (L := [some (.ref 191), some (.int (iZ (c : Int))), some (.int (iZ x)), some (.int (iZ y)), none, none, none, none]) rfl (fun X C T => ?_)
  refine am_aload_n (q := 1) C dX11_formulaAt_0 rfl rfl ?_
  refine am_iload_n (q := 2) C dX11_formulaAt_1 rfl rfl ?_
  refine am_iload_n (q := 3) C dX11_formulaAt_2 rfl rfl ?_
  refine am_iload_n (q := 4) C dX11_formulaAt_3 rfl rfl ?_
  refine am_callV (q := 7) (As := [.int (iZ (c : Int)), .int (iZ x), .int (iZ y)]) (rest := []) C mb_X11_goesHome im_X11_goesHome se_X11_goesHome ml_X11_287 cb_11 kk_191 (show 191 < 215 by decide) dX11_formulaAt_4 rfl (sp_X11_goesHome (l := raysA t) (fun r hr => ⟨(hR.2 r hr).1, (hR.2 r hr).2.1⟩) hc (by omega) hper ⟨hp1.1, hP⟩ ⟨rays_D hK hc, lD_le (fun k hk => ray_le hK hk) hc⟩ (fun k hk => ray_le hK hk) hx hy) rfl rfl ⟨by decide, by decide⟩ ⟨Nat.le_refl _, Nat.le_refl _⟩ (Nat.le_of_ble_eq_true rfl) (am_rv (fun w' hw' => ?_))
  obtain ⟨I1, rfl, hgo, hk1, hh1⟩ := hw'
  have hij := lIJ_rg (c := c) (P := perP t (pm t)) (x := x) (y := y) hp1.1 (rays_D hK hc) (ray_le hK (by omega)) (ray_le hK hc) hx hy
  refine am_lconst (q := 8) (v := lN 0) C dX11_formulaAt_7 rfl rfl ?_
  refine am_lstore (q := 10) (L' := [some (.ref 191), some (.int (iZ (c : Int))), some (.int (iZ x)), some (.int (iZ y)), some (.long (lN 0)), none, none, none]) C dX11_formulaAt_8 rfl (by decide) rfl rfl ?_
  refine am_iconst (q := 11) (v := iZ 0) C dX11_formulaAt_10 rfl rfl ?_
  refine am_istore (q := 13) (L' := [some (.ref 191), some (.int (iZ (c : Int))), some (.int (iZ x)), some (.int (iZ y)), some (.long (lN 0)), none, some (.int (iZ 0)), none]) C dX11_formulaAt_11 rfl (by decide) rfl rfl ?_
  have hm2 := rays_2 (t := t) (by omega)
  have i1 : ∀ (fuel : Nat) (u v : Nat) (s r : Int64), (u ≤ pm t - 2) → (u + v ≤ pm t - 2 + 1) → (lpS (fun q => dsM (fmF t c x y) u q * chs (lI (raysA t) (perP t (pm t)) c x y) u * chs (lJ (raysA t) (perP t (pm t)) c x y) q) (pm t - 2 + 1 - u - v) v s = r) → (pm t - 2 + 1 - v) < fuel → (am_A G mX11_formulaAt X (am_rm 3 0 0) 80 [some (.ref 191), some (.int (iZ (c : Int))), some (.int (iZ x)), some (.int (iZ y)), some (.long r), none, some (.int (iZ (u : Int))), none] [] (215, kK, kR, I1, J) 0 0) → am_A G mX11_formulaAt X (am_rm 3 0 0) 27 [some (.ref 191), some (.int (iZ (c : Int))), some (.int (iZ x)), some (.int (iZ y)), some (.long s), none, some (.int (iZ (u : Int))), some (.int (iZ (v : Int)))] [] (215, kK, kR, I1, J) 0 0 := by
    intro fuel
    induction fuel with
    | zero => intro u v s r hu hv hs hfu hk9; exact absurd hfu (Nat.not_lt_zero _)
    | succ fuel ih =>
      intro u v s r hu hv hs hfu hk9
      refine am_iload (q := 29) C dX11_formulaAt_27 rfl rfl ?_
      refine am_iload (q := 31) C dX11_formulaAt_29 rfl rfl ?_
      refine am_iaddZ (q := 32) C dX11_formulaAt_31 rfl ?_
      refine am_aload_n (q := 33) C dX11_formulaAt_32 rfl rfl ?_
      refine am_getIe (q := 36) (v := (iZ (pm t : Int))) C fb_X11_86 dX11_formulaAt_33 rfl rfl kk_191 (show 191 < 215 by decide) ((hk1 0 (by omega)).trans hA.1) ?_
      refine am_iconst (q := 37) (v := iZ 2) C dX11_formulaAt_36 rfl rfl ?_
      refine am_isubZ (q := 38) C dX11_formulaAt_37 rfl ?_
      refine am_icmpZ_gt (q := 41) (tgt := 80) C dX11_formulaAt_38 (by decide) rfl ⟨by omega, by omega⟩ ⟨by omega, by omega⟩ (fun e1 => ?_) (fun e1 => ?_)
      · refine am_wkA (L1 := [some (.ref 191), some (.int (iZ (c : Int))), some (.int (iZ x)), some (.int (iZ y)), some (.long s), none, some (.int (iZ (u : Int))), none]) ⟨rfl, ⟨rfl, ⟨rfl, ⟨rfl, ⟨rfl, ⟨rfl, trivial⟩⟩⟩⟩⟩⟩ ?_
        rw [show pm t - 2 + 1 - u - v = 0 by omega, lpS_0] at hs
        rw [← hs] at hk9
        exact hk9
      · refine am_lload (q := 43) C dX11_formulaAt_41 rfl rfl ?_
        refine am_aload_n (q := 44) C dX11_formulaAt_43 rfl rfl ?_
        refine am_iload (q := 46) C dX11_formulaAt_44 rfl rfl ?_
        refine am_iload (q := 48) C dX11_formulaAt_46 rfl rfl ?_
        refine am_callV (q := 51) (As := [.int (iZ (u : Int)), .int (iZ (v : Int))]) (rest := [.long s]) C mb_X11_differenceAt im_X11_differenceAt se_X11_differenceAt ml_X11_293 cb_11 kk_191 (show 191 < 215 by decide) dX11_formulaAt_48 rfl (sp_X11_differenceAt hK hc hP hgo hT (g := u) (h := v) (by omega)) rfl rfl ⟨by decide, by decide⟩ ⟨Nat.le_refl _, Nat.le_refl _⟩ (Nat.le_of_ble_eq_true rfl) (am_rle ?_)
        refine am_aload_n (q := 52) C dX11_formulaAt_51 rfl rfl ?_
        refine am_getIe (q := 55) (v := (iZ (lI (raysA t) (perP t (pm t)) c x y))) C fb_X11_268 dX11_formulaAt_52 rfl rfl kk_191 (show 191 < 215 by decide) hgo.2.2.2.2.2.1 ?_
        refine am_iload (q := 57) C dX11_formulaAt_55 rfl rfl ?_
        refine am_callS (q := 60) (As := [.int (iZ (lI (raysA t) (perP t (pm t)) c x y)), .int (iZ (u : Int))]) (rest := [.long (dsM (fmF t c x y) u v), .long s]) C mb_X11_choose st_X11_choose ml_X11_290 dX11_formulaAt_57 rfl (sp_X11_choose (n := lI (raysA t) (perP t (pm t)) c x y) (by omega) (by omega)) rfl rfl ⟨by decide, by decide⟩ ⟨Nat.le_refl _, Nat.le_refl _⟩ (Nat.le_of_ble_eq_true rfl) (am_rle ?_)
        refine am_lmul (q := 61) C dX11_formulaAt_60 rfl ?_
        refine am_aload_n (q := 62) C dX11_formulaAt_61 rfl rfl ?_
        refine am_getIe (q := 65) (v := (iZ (lJ (raysA t) (perP t (pm t)) c x y))) C fb_X11_271 dX11_formulaAt_62 rfl rfl kk_191 (show 191 < 215 by decide) hgo.2.2.2.2.2.2.1 ?_
        refine am_iload (q := 67) C dX11_formulaAt_65 rfl rfl ?_
        refine am_callS (q := 70) (As := [.int (iZ (lJ (raysA t) (perP t (pm t)) c x y)), .int (iZ (v : Int))]) (rest := [.long ((dsM (fmF t c x y) u v) * (chs (lI (raysA t) (perP t (pm t)) c x y) u)), .long s]) C mb_X11_choose st_X11_choose ml_X11_290 dX11_formulaAt_67 rfl (sp_X11_choose (n := lJ (raysA t) (perP t (pm t)) c x y) (by omega) (by omega)) rfl rfl ⟨by decide, by decide⟩ ⟨Nat.le_refl _, Nat.le_refl _⟩ (Nat.le_of_ble_eq_true rfl) (am_rle ?_)
        refine am_lmul (q := 71) C dX11_formulaAt_70 rfl ?_
        refine am_ladd (q := 72) C dX11_formulaAt_71 rfl ?_
        refine am_lstore (q := 74) (L' := [some (.ref 191), some (.int (iZ (c : Int))), some (.int (iZ x)), some (.int (iZ y)), some (.long (s + (((dsM (fmF t c x y) u v) * (chs (lI (raysA t) (perP t (pm t)) c x y) u)) * (chs (lJ (raysA t) (perP t (pm t)) c x y) v)))), none, some (.int (iZ (u : Int))), some (.int (iZ (v : Int)))]) C dX11_formulaAt_72 rfl (by decide) rfl rfl ?_
        refine am_iincZ (q := 77) (L' := [some (.ref 191), some (.int (iZ (c : Int))), some (.int (iZ x)), some (.int (iZ y)), some (.long (s + (((dsM (fmF t c x y) u v) * (chs (lI (raysA t) (perP t (pm t)) c x y) u)) * (chs (lJ (raysA t) (perP t (pm t)) c x y) v)))), none, some (.int (iZ (u : Int))), some (.int (iZ ((v + 1 : Nat) : Int)))]) C dX11_formulaAt_74 rfl rfl (by omega) (by decide) rfl rfl ?_
        refine am_goto (q := 27) C dX11_formulaAt_77 (by decide) ?_
        refine ih u (v + 1) _ r hu (by omega) ?_ (by omega) hk9
        rw [← hs, show pm t - 2 + 1 - u - v = (pm t - 2 + 1 - u - (v + 1)) + 1 by omega, lpS_1]
  have o1 : ∀ (fuel : Nat) (u : Nat) (s : Int64), (u ≤ pm t - 2 + 1) → (tdS (dsM (fmF t c x y)) (lI (raysA t) (perP t (pm t)) c x y) (lJ (raysA t) (perP t (pm t)) c x y) (pm t - 2) (pm t - 2 + 1 - u) u s = fmM t c x y) → (pm t - 2 + 1 - u) < fuel → am_A G mX11_formulaAt X (am_rm 3 0 0) 13 [some (.ref 191), some (.int (iZ (c : Int))), some (.int (iZ x)), some (.int (iZ y)), some (.long s), none, some (.int (iZ (u : Int))), none] [] (215, kK, kR, I1, J) 0 0 := by
    intro fuel
    induction fuel with
    | zero => intro u s hu hs hf; exact absurd hf (Nat.not_lt_zero _)
    | succ fuel ih =>
      intro u s hu hs hf
      refine am_iload (q := 15) C dX11_formulaAt_13 rfl rfl ?_
      refine am_aload_n (q := 16) C dX11_formulaAt_15 rfl rfl ?_
      refine am_getIe (q := 19) (v := (iZ (pm t : Int))) C fb_X11_86 dX11_formulaAt_16 rfl rfl kk_191 (show 191 < 215 by decide) ((hk1 0 (by omega)).trans hA.1) ?_
      refine am_iconst (q := 20) (v := iZ 2) C dX11_formulaAt_19 rfl rfl ?_
      refine am_isubZ (q := 21) C dX11_formulaAt_20 rfl ?_
      refine am_icmpZ_gt (q := 24) (tgt := 86) C dX11_formulaAt_21 (by decide) rfl ⟨by omega, by omega⟩ ⟨by omega, by omega⟩ (fun g1 => ?_) (fun g1 => ?_)
      · refine am_lload (q := 88) C dX11_formulaAt_86 rfl rfl ?_
        refine am_lret C T dX11_formulaAt_88 rfl (Nat.le_refl _) (Nat.le_refl _) ⟨_, rfl, ?_⟩
        rw [show pm t - 2 + 1 - u = 0 by omega] at hs
        have hs9 : s = fmM t c x y := hs
        rw [hs9]
        exact ⟨rfl, _, rfl, hgo.2.2.2.2.1, hk1, hh1⟩
      · refine am_iconst (q := 25) (v := iZ 0) C dX11_formulaAt_24 rfl rfl ?_
        refine am_istore (q := 27) (L' := [some (.ref 191), some (.int (iZ (c : Int))), some (.int (iZ x)), some (.int (iZ y)), some (.long s), none, some (.int (iZ (u : Int))), some (.int (iZ 0))]) C dX11_formulaAt_25 rfl (by decide) rfl rfl ?_
        refine i1 (pm t + 2) u 0 s (lpS (fun q => dsM (fmF t c x y) u q * chs (lI (raysA t) (perP t (pm t)) c x y) u * chs (lJ (raysA t) (perP t (pm t)) c x y) q) (pm t - 2 + 1 - u) 0 s) (by omega) (by omega) rfl (by omega) ?_
        refine am_iincZ (q := 83) (L' := [some (.ref 191), some (.int (iZ (c : Int))), some (.int (iZ x)), some (.int (iZ y)), some (.long (lpS (fun q => dsM (fmF t c x y) u q * chs (lI (raysA t) (perP t (pm t)) c x y) u * chs (lJ (raysA t) (perP t (pm t)) c x y) q) (pm t - 2 + 1 - u) 0 s)), none, some (.int (iZ ((u + 1 : Nat) : Int))), none]) C dX11_formulaAt_80 rfl rfl (by omega) (by decide) rfl rfl ?_
        refine am_goto (q := 13) C dX11_formulaAt_83 (by decide) ?_
        refine ih (u + 1) _ (by omega) ?_ (by omega)
        rw [← hs, show pm t - 2 + 1 - u = (pm t - 2 + 1 - (u + 1)) + 1 by omega, tdS_1]
        rw [show pm t - 2 + 1 - (u + 1) + 1 = pm t - 2 + 1 - u by omega]
  exact o1 (pm t + 1) 0 0 (by omega) rfl (by omega)
theorem rayM_on {I' : Nat → Nat → Int32} {t : PT} (h : rayM I t) (h1 : I' 191 32 = I 191 32) (h2 : ∀ z, z ≠ 191 → I' z = I z) : rayM I' t := ⟨h1.trans h.1, fun r hr => by rw [h2 209 (by decide), h2 210 (by decide), h2 211 (by decide)]; exact h.2 r hr⟩
theorem toL {g : Int} (h : 0 ≤ g) : Int64.ofInt g = lN g.toNat := by
  rw [show g = (g.toNat : Int) by omega]
  rfl
set_option maxRecDepth 4000 in
theorem sp_X11_difference {σ : SG} (hM : atM I J σ) {p x y g h : Int} (hp : rg p) (hx : rg x) (hy : rg y) (hg : rg g) (hh : rg h) : am_S G mX11_difference 6 0 0 [.ref 191, .int (iZ p), .int (iZ x), .int (iZ y), .int (iZ g), .int (iZ h)] (215, kK, kR, I, J) (am_ql (fun v w' => v = differenceA σ.1 p x y g h ∧ ∃ (I' : Nat → Nat → Int32) (J' : Nat → Nat → Int64), w' = (215, kK, kR, I', J') ∧ atM I' J' (σ) ∧ frM I J I' J')) := by
  have hQ := hM.1
  have hK := hM.2.1
  have hm := hM.2.1.1
  have hL := hM.2.2.1
  have hlen : (raysA σ.1).length ≤ pm σ.1 := raysP_len σ.1 (pm σ.1)
  have hp1 := perP_ok hK (pm σ.1) (Nat.le_refl _)
  have hp2 := per_le hp1
  have hg1 := hg.1
  have hh1 := hh.1
  have hg2 := hg.2
  have hh2 := hh.2
  refine am_spec (plainFor_of_name (by decide +kernel)) (Nat.le_of_ble_eq_true rfl) (L := [some (.ref 191), some (.int (iZ p)), some (.int (iZ x)), some (.int (iZ y)), some (.int (iZ g)), some (.int (iZ h))]) rfl (fun X C T => ?_)
  refine am_aload_n (q := 1) C dX11_difference_0 rfl rfl ?_
  refine am_iload_n (q := 2) C dX11_difference_1 rfl rfl ?_
  refine am_iload_n (q := 3) C dX11_difference_2 rfl rfl ?_
  refine am_iload_n (q := 4) C dX11_difference_3 rfl rfl ?_
  refine am_callV (q := 7) (As := [.int (iZ p), .int (iZ x), .int (iZ y)]) (rest := []) C mb_X11_isAsked im_X11_isAsked se_X11_isAsked ml_X11_284 cb_11 kk_191 (show 191 < 215 by decide) dX11_difference_4 rfl (sp_X11_isAsked hQ hK hp hx hy) rfl rfl ⟨by decide, by decide⟩ ⟨Nat.le_refl _, Nat.le_refl _⟩ (Nat.le_of_ble_eq_true rfl) (am_ri (fun v' w' hw' => ?_))
  obtain ⟨rfl, I1, rfl, hR, hf⟩ := hw'
  have hQ1 := hQ.fr hf
  refine am_ifB_eq (q := 10) (tgt := 38) C dX11_difference_7 (by decide) rfl (fun c1 => ?_) (fun c1 => ?_)
  · refine am_ldc2 (q := 41) C dX11_difference_38 rfl ck_X11_178 ?_
    refine am_lret C T dX11_difference_41 rfl (Nat.le_refl _) (Nat.le_refl _) ⟨_, rfl, ?_⟩
    have e1 : differenceA σ.1 p x y g h = (-9223372036854775808) := by
      unfold differenceA
      first | exact if_neg (by omega) | (rw [if_pos (by omega)]; exact if_neg (by omega))
    rw [e1]
    exact ⟨rfl, _, _, rfl, hM.scr hf, hf.M⟩
  · refine am_iload (q := 12) C dX11_difference_10 rfl rfl ?_
    refine am_ifZ_lt (q := 15) (tgt := 38) C dX11_difference_12 (by decide) rfl hg (fun c2 => ?_) (fun c2 => ?_)
    · refine am_ldc2 (q := 41) C dX11_difference_38 rfl ck_X11_178 ?_
      refine am_lret C T dX11_difference_41 rfl (Nat.le_refl _) (Nat.le_refl _) ⟨_, rfl, ?_⟩
      have e1 : differenceA σ.1 p x y g h = (-9223372036854775808) := by
        unfold differenceA
        first | exact if_neg (by omega) | (rw [if_pos (by omega)]; exact if_neg (by omega))
      rw [e1]
      exact ⟨rfl, _, _, rfl, hM.scr hf, hf.M⟩
    · refine am_iload (q := 17) C dX11_difference_15 rfl rfl ?_
      refine am_ifZ_lt (q := 20) (tgt := 38) C dX11_difference_17 (by decide) rfl hh (fun c3 => ?_) (fun c3 => ?_)
      · refine am_ldc2 (q := 41) C dX11_difference_38 rfl ck_X11_178 ?_
        refine am_lret C T dX11_difference_41 rfl (Nat.le_refl _) (Nat.le_refl _) ⟨_, rfl, ?_⟩
        have e1 : differenceA σ.1 p x y g h = (-9223372036854775808) := by
          unfold differenceA
          first | exact if_neg (by omega) | (rw [if_pos (by omega)]; exact if_neg (by omega))
        rw [e1]
        exact ⟨rfl, _, _, rfl, hM.scr hf, hf.M⟩
      · have hm2 := rays_2 (t := σ.1) (by omega)
        refine am_iload (q := 22) C dX11_difference_20 rfl rfl ?_
        refine am_i2lZ (q := 23) C dX11_difference_22 rfl hg ?_
        refine am_longE (y := (lN g.toNat)) (toL (by omega)) ?_
        refine am_iload (q := 25) C dX11_difference_23 rfl rfl ?_
        refine am_i2lZ (q := 26) C dX11_difference_25 rfl hh ?_
        refine am_longE (y := (lN h.toNat)) (toL (by omega)) ?_
        refine am_ladd (q := 27) C dX11_difference_26 rfl ?_
        refine am_longE (lN_add _ _) ?_
        refine am_aload_n (q := 28) C dX11_difference_27 rfl rfl ?_
        refine am_getIe (q := 31) (v := (iZ (pm σ.1 : Int))) C fb_X11_86 dX11_difference_28 rfl rfl kk_191 (show 191 < 215 by decide) hQ1.1 ?_
        refine am_iconst (q := 32) (v := iZ 2) C dX11_difference_31 rfl rfl ?_
        refine am_isubZ (q := 33) C dX11_difference_32 rfl ?_
        refine am_i2lZ (q := 34) C dX11_difference_33 rfl ⟨by omega, by omega⟩ ?_
        refine am_longE (y := (lN (pm σ.1 - 2))) (congrArg Int64.ofInt (show (pm σ.1 : Int) - 2 = ((pm σ.1 - 2 : Nat) : Int) by omega)) ?_
        refine am_lcmp (q := 35) C dX11_difference_34 rfl ?_
        refine am_if_le (q := 38) (tgt := 42) C dX11_difference_35 (by decide) rfl (fun e1 => ?_) (fun e1 => ?_)
        · have e1 := ((lg_cmp_le _ _).trans (pk_lLE (by omega) (by omega))).mp e1
          obtain ⟨q, rfl⟩ : ∃ q : Nat, p = q := ⟨p.toNat, by omega⟩
          obtain ⟨g1, rfl⟩ : ∃ z : Nat, g = z := ⟨g.toNat, by omega⟩
          obtain ⟨h1, rfl⟩ : ∃ z : Nat, h = z := ⟨h.toNat, by omega⟩
          refine am_aload_n (q := 43) C dX11_difference_42 rfl rfl ?_
          refine am_aload_n (q := 44) C dX11_difference_43 rfl rfl ?_
          refine am_callV (q := 47) (As := []) (rest := [.ref 191]) C mb_X11_periodNow im_X11_periodNow se_X11_periodNow ml_X11_231 cb_11 kk_191 (show 191 < 215 by decide) dX11_difference_44 rfl (sp_X11_periodNow hQ1 hK) rfl rfl ⟨by decide, by decide⟩ ⟨Nat.le_refl _, Nat.le_refl _⟩ (Nat.le_of_ble_eq_true rfl) (am_rie ?_)
          refine am_putI (q := 50) C fw_X11_262 dX11_difference_47 rfl rfl kk_191 (show 191 < 215 by decide) ?_
          refine am_aload_n (q := 51) C dX11_difference_50 rfl rfl ?_
          refine am_sipush (q := 54) (v := iZ 149) C dX11_difference_51 rfl rfl ?_
          refine am_sipush (q := 57) (v := iZ 149) C dX11_difference_54 rfl rfl ?_
          refine am_callV (q := 60) (As := [.int (iZ ((149 : Nat) : Int)), .int (iZ ((149 : Nat) : Int))]) (rest := []) C mb_X11_countFree im_X11_countFree se_X11_countFree ml_X11_192 cb_11 kk_191 (show 191 < 215 by decide) dX11_difference_57 rfl (sp_X11_countFree (hQ1.fr (frS_up (by decide))) hK (cx := 149) (cy := 149) (by omega) (by omega)) rfl rfl ⟨by decide, by decide⟩ ⟨Nat.le_refl _, Nat.le_refl _⟩ (Nat.le_of_ble_eq_true rfl) (am_rv (fun w' hw' => ?_))
          obtain ⟨J2, rfl, hJ, hT⟩ := hw'
          have hf3 : frS I J (am_up (am_up (am_up I1 191 37 (iZ (perP σ.1 (pm σ.1) : Int))) 191 27 (iZ ((149 : Nat) : Int))) 191 28 (iZ ((149 : Nat) : Int))) J2 := frS_tr hf (frS_tr (frS_up (by decide)) (cf_frS hJ))
          have hper3 : (am_up (am_up (am_up I1 191 37 (iZ (perP σ.1 (pm σ.1) : Int))) 191 27 (iZ ((149 : Nat) : Int))) 191 28 (iZ ((149 : Nat) : Int))) 191 37 = iZ (perP σ.1 (pm σ.1) : Int) := by simp [am_up]
          have hR3 : rayM (am_up (am_up (am_up I1 191 37 (iZ (perP σ.1 (pm σ.1) : Int))) 191 27 (iZ ((149 : Nat) : Int))) 191 28 (iZ ((149 : Nat) : Int))) σ.1 := ⟨by simp [am_up]; exact hR.1, fun r hr => by simp [am_up]; exact hR.2 r hr⟩
          generalize (am_up (am_up (am_up I1 191 37 (iZ (perP σ.1 (pm σ.1) : Int))) 191 27 (iZ ((149 : Nat) : Int))) 191 28 (iZ ((149 : Nat) : Int))) = I3 at hf3 hper3 hR3 ⊢
          have hQ3 := hQ.fr hf3
          refine am_aload_n (q := 61) C dX11_difference_60 rfl rfl ?_
          refine am_iload_n (q := 62) C dX11_difference_61 rfl rfl ?_
          refine am_iload_n (q := 63) C dX11_difference_62 rfl rfl ?_
          refine am_iload_n (q := 64) C dX11_difference_63 rfl rfl ?_
          refine am_callV (q := 67) (As := [.int (iZ (q : Int)), .int (iZ x), .int (iZ y)]) (rest := []) C mb_X11_goesHome im_X11_goesHome se_X11_goesHome ml_X11_287 cb_11 kk_191 (show 191 < 215 by decide) dX11_difference_64 rfl (sp_X11_goesHome (l := raysA σ.1) (fun r hr => ⟨(hR3.2 r hr).1, (hR3.2 r hr).2.1⟩) (c := q) (by omega) (by omega) hper3 ⟨hp1.1, by omega⟩ ⟨rays_D hK (by omega), lD_le (fun k hk => ray_le hK hk) (by omega)⟩ (fun k hk => ray_le hK hk) (x := x) (y := y) (by omega) (by omega)) rfl rfl ⟨by decide, by decide⟩ ⟨Nat.le_refl _, Nat.le_refl _⟩ (Nat.le_of_ble_eq_true rfl) (am_rv (fun w' hw' => ?_))
          obtain ⟨I4, rfl, hgo, hk4, hh4⟩ := hw'
          refine am_aload_n (q := 68) C dX11_difference_67 rfl rfl ?_
          refine am_iload (q := 70) C dX11_difference_68 rfl rfl ?_
          refine am_iload (q := 72) C dX11_difference_70 rfl rfl ?_
          refine am_callV (q := 75) (As := [.int (iZ (g1 : Int)), .int (iZ (h1 : Int))]) (rest := []) C mb_X11_differenceAt im_X11_differenceAt se_X11_differenceAt ml_X11_293 cb_11 kk_191 (show 191 < 215 by decide) dX11_difference_72 rfl (sp_X11_differenceAt hK (c := q) (by omega) (by omega) hgo hT (g := g1) (h := h1) (by omega)) rfl rfl ⟨by decide, by decide⟩ ⟨Nat.le_refl _, Nat.le_refl _⟩ (Nat.le_of_ble_eq_true rfl) (am_rle ?_)
          refine am_lret C T dX11_difference_75 rfl (Nat.le_refl _) (Nat.le_refl _) ⟨_, rfl, ?_⟩
          have e1 : differenceA σ.1 (q : Int) x y (g1 : Int) (h1 : Int) = dsM (fmF σ.1 q x y) g1 h1 := by
            unfold differenceA
            rw [if_pos (by omega), if_pos (by omega), Int.toNat_natCast, Int.toNat_natCast, Int.toNat_natCast]
            exact (ds_dD _ (by omega) (by omega)).symm
          rw [e1]
          have hf5 := frS_tr hf3 (frS_37 (J := J2) hk4 hh4)
          exact ⟨rfl, _, _, rfl, hM.scr hf5, hf5.M⟩
        · have e1 : ¬ (_) := fun z => e1 (((lg_cmp_le _ _).trans (pk_lLE (by omega) (by omega))).mpr z)
          refine am_ldc2 (q := 41) C dX11_difference_38 rfl ck_X11_178 ?_
          refine am_lret C T dX11_difference_41 rfl (Nat.le_refl _) (Nat.le_refl _) ⟨_, rfl, ?_⟩
          have e1 : differenceA σ.1 p x y g h = (-9223372036854775808) := by
            unfold differenceA
            first | exact if_neg (by omega) | (rw [if_pos (by omega)]; exact if_neg (by omega))
          rw [e1]
          exact ⟨rfl, _, _, rfl, hM.scr hf, hf.M⟩
set_option maxRecDepth 4000 in
theorem sp_X11_formula {σ : SG} (hM : atM I J σ) {p x y : Int} (hp : rg p) (hx : rg x) (hy : rg y) : am_S G mX11_formula 6 0 0 [.ref 191, .int (iZ p), .int (iZ x), .int (iZ y)] (215, kK, kR, I, J) (am_ql (fun v w' => v = formulaA σ.1 p x y ∧ ∃ (I' : Nat → Nat → Int32) (J' : Nat → Nat → Int64), w' = (215, kK, kR, I', J') ∧ atM I' J' (σ) ∧ frM I J I' J')) := by
  have hQ := hM.1
  have hK := hM.2.1
  have hm := hM.2.1.1
  have hL := hM.2.2.1
  have hlen : (raysA σ.1).length ≤ pm σ.1 := raysP_len σ.1 (pm σ.1)
  have hp1 := perP_ok hK (pm σ.1) (Nat.le_refl _)
  have hp2 := per_le hp1
  refine am_spec (plainFor_of_name (by decide +kernel)) (Nat.le_of_ble_eq_true rfl) (L := [some (.ref 191), some (.int (iZ p)), some (.int (iZ x)), some (.int (iZ y))]) rfl (fun X C T => ?_)
  refine am_aload_n (q := 1) C dX11_formula_0 rfl rfl ?_
  refine am_iload_n (q := 2) C dX11_formula_1 rfl rfl ?_
  refine am_iload_n (q := 3) C dX11_formula_2 rfl rfl ?_
  refine am_iload_n (q := 4) C dX11_formula_3 rfl rfl ?_
  refine am_callV (q := 7) (As := [.int (iZ p), .int (iZ x), .int (iZ y)]) (rest := []) C mb_X11_isAsked im_X11_isAsked se_X11_isAsked ml_X11_284 cb_11 kk_191 (show 191 < 215 by decide) dX11_formula_4 rfl (sp_X11_isAsked hQ hK hp hx hy) rfl rfl ⟨by decide, by decide⟩ ⟨Nat.le_refl _, Nat.le_refl _⟩ (Nat.le_of_ble_eq_true rfl) (am_ri (fun v' w' hw' => ?_))
  obtain ⟨rfl, I1, rfl, hR, hf⟩ := hw'
  have hQ1 := hQ.fr hf
  refine am_ifB_ne (q := 10) (tgt := 14) C dX11_formula_7 (by decide) rfl (fun c1 => ?_) (fun c1 => ?_)
  · obtain ⟨q, rfl⟩ : ∃ q : Nat, p = q := ⟨p.toNat, by omega⟩
    refine am_aload_n (q := 15) C dX11_formula_14 rfl rfl ?_
    refine am_aload_n (q := 16) C dX11_formula_15 rfl rfl ?_
    refine am_callV (q := 19) (As := []) (rest := [.ref 191]) C mb_X11_periodNow im_X11_periodNow se_X11_periodNow ml_X11_231 cb_11 kk_191 (show 191 < 215 by decide) dX11_formula_16 rfl (sp_X11_periodNow hQ1 hK) rfl rfl ⟨by decide, by decide⟩ ⟨Nat.le_refl _, Nat.le_refl _⟩ (Nat.le_of_ble_eq_true rfl) (am_rie ?_)
    refine am_putI (q := 22) C fw_X11_262 dX11_formula_19 rfl rfl kk_191 (show 191 < 215 by decide) ?_
    refine am_aload_n (q := 23) C dX11_formula_22 rfl rfl ?_
    refine am_sipush (q := 26) (v := iZ 149) C dX11_formula_23 rfl rfl ?_
    refine am_sipush (q := 29) (v := iZ 149) C dX11_formula_26 rfl rfl ?_
    refine am_callV (q := 32) (As := [.int (iZ ((149 : Nat) : Int)), .int (iZ ((149 : Nat) : Int))]) (rest := []) C mb_X11_countFree im_X11_countFree se_X11_countFree ml_X11_192 cb_11 kk_191 (show 191 < 215 by decide) dX11_formula_29 rfl (sp_X11_countFree (hQ1.fr (frS_up (by decide))) hK (cx := 149) (cy := 149) (by omega) (by omega)) rfl rfl ⟨by decide, by decide⟩ ⟨Nat.le_refl _, Nat.le_refl _⟩ (Nat.le_of_ble_eq_true rfl) (am_rv (fun w' hw' => ?_))
    obtain ⟨J2, rfl, hJ, hT⟩ := hw'
    have hf3 : frS I J (am_up (am_up (am_up I1 191 37 (iZ (perP σ.1 (pm σ.1) : Int))) 191 27 (iZ ((149 : Nat) : Int))) 191 28 (iZ ((149 : Nat) : Int))) J2 := frS_tr hf (frS_tr (frS_up (by decide)) (cf_frS hJ))
    have hper3 : (am_up (am_up (am_up I1 191 37 (iZ (perP σ.1 (pm σ.1) : Int))) 191 27 (iZ ((149 : Nat) : Int))) 191 28 (iZ ((149 : Nat) : Int))) 191 37 = iZ (perP σ.1 (pm σ.1) : Int) := by simp [am_up]
    have hR3 : rayM (am_up (am_up (am_up I1 191 37 (iZ (perP σ.1 (pm σ.1) : Int))) 191 27 (iZ ((149 : Nat) : Int))) 191 28 (iZ ((149 : Nat) : Int))) σ.1 := ⟨by simp [am_up]; exact hR.1, fun r hr => by simp [am_up]; exact hR.2 r hr⟩
    generalize (am_up (am_up (am_up I1 191 37 (iZ (perP σ.1 (pm σ.1) : Int))) 191 27 (iZ ((149 : Nat) : Int))) 191 28 (iZ ((149 : Nat) : Int))) = I3 at hf3 hper3 hR3 ⊢
    have hQ3 := hQ.fr hf3
    refine am_aload_n (q := 33) C dX11_formula_32 rfl rfl ?_
    refine am_iload_n (q := 34) C dX11_formula_33 rfl rfl ?_
    refine am_iload_n (q := 35) C dX11_formula_34 rfl rfl ?_
    refine am_iload_n (q := 36) C dX11_formula_35 rfl rfl ?_
    refine am_callV (q := 39) (As := [.int (iZ (q : Int)), .int (iZ x), .int (iZ y)]) (rest := []) C mb_X11_formulaAt im_X11_formulaAt se_X11_formulaAt ml_X11_296 cb_11 kk_191 (show 191 < 215 by decide) dX11_formula_36 rfl (sp_X11_formulaAt hQ3 hK (c := q) (by omega) (by omega) hR3 hper3 hT (x := x) (y := y) (by omega) (by omega)) rfl rfl ⟨by decide, by decide⟩ ⟨Nat.le_refl _, Nat.le_refl _⟩ (Nat.le_of_ble_eq_true rfl) (am_rl (fun v' w' hw' => ?_))
    obtain ⟨rfl, I4, rfl, hp4, hk4, hh4⟩ := hw'
    refine am_lret C T dX11_formula_39 rfl (Nat.le_refl _) (Nat.le_refl _) ⟨_, rfl, ?_⟩
    have e1 : formulaA σ.1 (q : Int) x y = fmM σ.1 q x y := by
      unfold formulaA
      rw [if_pos (by omega), Int.toNat_natCast, fm_eq hK]
    rw [e1]
    have hf5 := frS_tr hf3 (frS_37 (J := J2) hk4 hh4)
    exact ⟨rfl, _, _, rfl, hM.scr hf5, hf5.M⟩
  · refine am_ldc2 (q := 13) C dX11_formula_10 rfl ck_X11_178 ?_
    refine am_lret C T dX11_formula_13 rfl (Nat.le_refl _) (Nat.le_refl _) ⟨_, rfl, ?_⟩
    have e1 : formulaA σ.1 p x y = (-9223372036854775808) := if_neg (by omega)
    rw [e1]
    exact ⟨rfl, _, _, rfl, hM.scr hf, hf.M⟩
set_option maxRecDepth 8000 in
theorem sp_X11_agrees {σ : SG} (hM : atM I J σ) {p n : Int} (hp : rg p) (hn : rg n) : am_S G mX11_agrees 6 0 0 [.ref 191, .int (iZ p), .int (iZ n)] (215, kK, kR, I, J) (am_qi (fun v w' => v = iZ (agreesA σ.1 p n) ∧ ∃ (I' : Nat → Nat → Int32) (J' : Nat → Nat → Int64), w' = (215, kK, kR, I', J') ∧ atM I' J' (σ) ∧ frM I J I' J')) := by
  have hQ := hM.1
  have hK := hM.2.1
  have hm := hM.2.1.1
  have hL := hM.2.2.1
  have hlen : (raysA σ.1).length ≤ pm σ.1 := raysP_len σ.1 (pm σ.1)
  have hp1 := perP_ok hK (pm σ.1) (Nat.le_refl _)
  have hp2 := per_le hp1
  refine am_spec (plainFor_of_name (by decide +kernel)) (Nat.le_of_ble_eq_true rfl) (L := [some (.ref 191), some (.int (iZ p)), some (.int (iZ n)), none, none, none]) rfl (fun X C T => ?_)
  refine am_aload_n (q := 1) C dX11_agrees_0 rfl rfl ?_
  refine am_iload_n (q := 2) C dX11_agrees_1 rfl rfl ?_
  refine am_iconst (q := 3) (v := iZ 0) C dX11_agrees_2 rfl rfl ?_
  refine am_iconst (q := 4) (v := iZ 0) C dX11_agrees_3 rfl rfl ?_
  refine am_callV (q := 7) (As := [.int (iZ p), .int (iZ 0), .int (iZ 0)]) (rest := []) C mb_X11_isAsked im_X11_isAsked se_X11_isAsked ml_X11_284 cb_11 kk_191 (show 191 < 215 by decide) dX11_agrees_4 rfl (sp_X11_isAsked hQ hK hp (x := 0) (y := 0) ⟨by omega, by omega⟩ ⟨by omega, by omega⟩) rfl rfl ⟨by decide, by decide⟩ ⟨Nat.le_refl _, Nat.le_refl _⟩ (Nat.le_of_ble_eq_true rfl) (am_ri (fun v' w' hw' => ?_))
  obtain ⟨rfl, I1, rfl, hR, hf⟩ := hw'
  have hQ1 := hQ.fr hf
  refine am_ifB_eq (q := 10) (tgt := 20) C dX11_agrees_7 (by decide) rfl (fun c1 => ?_) (fun c1 => ?_)
  · refine am_iconst (q := 21) (v := iZ (-1)) C dX11_agrees_20 rfl rfl ?_
    refine am_iret C T dX11_agrees_21 rfl (Nat.le_refl _) (Nat.le_refl _) ⟨_, rfl, ?_⟩
    have e1 : agreesA σ.1 p n = -1 := if_neg (by omega)
    rw [e1]
    exact ⟨rfl, _, _, rfl, hM.scr hf, hf.M⟩
  · refine am_iload_n (q := 11) C dX11_agrees_10 rfl rfl ?_
    refine am_iconst (q := 12) (v := iZ 0) C dX11_agrees_11 rfl rfl ?_
    refine am_bipush (q := 14) (v := iZ 30) C dX11_agrees_12 rfl rfl ?_
    refine am_callS (q := 17) (As := [.int (iZ n), .int (iZ 0), .int (iZ 30)]) (rest := []) C mb_X11_in st_X11_in ml_X11_89 dX11_agrees_14 rfl (sp_X11_in (v := n) (a := 0) (b := 30) hn ⟨by omega, by omega⟩ ⟨by omega, by omega⟩) rfl rfl ⟨by decide, by decide⟩ ⟨Nat.le_refl _, Nat.le_refl _⟩ (Nat.le_of_ble_eq_true rfl) (am_rie ?_)
    refine am_ifB_ne (q := 20) (tgt := 22) C dX11_agrees_17 (by decide) rfl (fun c2 => ?_) (fun c2 => ?_)
    · obtain ⟨q, rfl⟩ : ∃ q : Nat, p = q := ⟨p.toNat, by omega⟩
      obtain ⟨k, rfl⟩ : ∃ k : Nat, n = k := ⟨n.toNat, by omega⟩
      refine am_aload_n (q := 23) C dX11_agrees_22 rfl rfl ?_
      refine am_aload_n (q := 24) C dX11_agrees_23 rfl rfl ?_
      refine am_callV (q := 27) (As := []) (rest := [.ref 191]) C mb_X11_periodNow im_X11_periodNow se_X11_periodNow ml_X11_231 cb_11 kk_191 (show 191 < 215 by decide) dX11_agrees_24 rfl (sp_X11_periodNow hQ1 hK) rfl rfl ⟨by decide, by decide⟩ ⟨Nat.le_refl _, Nat.le_refl _⟩ (Nat.le_of_ble_eq_true rfl) (am_rie ?_)
      refine am_putI (q := 30) C fw_X11_262 dX11_agrees_27 rfl rfl kk_191 (show 191 < 215 by decide) ?_
      refine am_aload_n (q := 31) C dX11_agrees_30 rfl rfl ?_
      refine am_sipush (q := 34) (v := iZ 149) C dX11_agrees_31 rfl rfl ?_
      refine am_sipush (q := 37) (v := iZ 149) C dX11_agrees_34 rfl rfl ?_
      refine am_callV (q := 40) (As := [.int (iZ ((149 : Nat) : Int)), .int (iZ ((149 : Nat) : Int))]) (rest := []) C mb_X11_countFree im_X11_countFree se_X11_countFree ml_X11_192 cb_11 kk_191 (show 191 < 215 by decide) dX11_agrees_37 rfl (sp_X11_countFree (hQ1.fr (frS_up (by decide))) hK (cx := 149) (cy := 149) (by omega) (by omega)) rfl rfl ⟨by decide, by decide⟩ ⟨Nat.le_refl _, Nat.le_refl _⟩ (Nat.le_of_ble_eq_true rfl) (am_rv (fun w' hw' => ?_))
      obtain ⟨J2, rfl, hJ, hT⟩ := hw'
      have hf3 : frS I J (am_up (am_up (am_up I1 191 37 (iZ (perP σ.1 (pm σ.1) : Int))) 191 27 (iZ ((149 : Nat) : Int))) 191 28 (iZ ((149 : Nat) : Int))) J2 := frS_tr hf (frS_tr (frS_up (by decide)) (cf_frS hJ))
      have hper3 : (am_up (am_up (am_up I1 191 37 (iZ (perP σ.1 (pm σ.1) : Int))) 191 27 (iZ ((149 : Nat) : Int))) 191 28 (iZ ((149 : Nat) : Int))) 191 37 = iZ (perP σ.1 (pm σ.1) : Int) := by simp [am_up]
      have hR3 : rayM (am_up (am_up (am_up I1 191 37 (iZ (perP σ.1 (pm σ.1) : Int))) 191 27 (iZ ((149 : Nat) : Int))) 191 28 (iZ ((149 : Nat) : Int))) σ.1 := ⟨by simp [am_up]; exact hR.1, fun r hr => by simp [am_up]; exact hR.2 r hr⟩
      generalize (am_up (am_up (am_up I1 191 37 (iZ (perP σ.1 (pm σ.1) : Int))) 191 27 (iZ ((149 : Nat) : Int))) 191 28 (iZ ((149 : Nat) : Int))) = I3 at hf3 hper3 hR3 ⊢
      have hQ3 := hQ.fr hf3
      refine am_iconst (q := 41) (v := iZ 0) C dX11_agrees_40 rfl rfl ?_
      refine am_istore_n (q := 42) (L' := [some (.ref 191), some (.int (iZ (q : Int))), some (.int (iZ (k : Int))), some (.int (iZ 0)), none, none]) C dX11_agrees_41 rfl (by decide) rfl rfl ?_
      refine am_iconst (q := 43) (v := iZ 0) C dX11_agrees_42 rfl rfl ?_
      refine am_istore (q := 45) (L' := [some (.ref 191), some (.int (iZ (q : Int))), some (.int (iZ (k : Int))), some (.int (iZ 0)), some (.int (iZ 0)), none]) C dX11_agrees_43 rfl (by decide) rfl rfl ?_
      have li : ∀ (fuel : Nat) (x y s r : Nat) (I4 : Nat → Nat → Int32), (x ≤ k) → (y ≤ k + 1) → (agI (agB σ.1 q x) (k + 1 - y) y s = r) → ((∀ z, z < 33 → I4 191 z = I3 191 z) ∧ ∀ z, z ≠ 191 → I4 z = I3 z) → (I4 191 37 = iZ (perP σ.1 (pm σ.1) : Int)) → (k + 1 - y) < fuel → (∀ (I4 : Nat → Nat → Int32), ((∀ z, z < 33 → I4 191 z = I3 191 z) ∧ ∀ z, z ≠ 191 → I4 z = I3 z) → (I4 191 37 = iZ (perP σ.1 (pm σ.1) : Int)) → am_A G mX11_agrees X (am_rm 6 0 0) 95 [some (.ref 191), some (.int (iZ (q : Int))), some (.int (iZ (k : Int))), some (.int (iZ (r : Int))), some (.int (iZ (x : Int))), none] [] (215, kK, kR, I4, J2) 0 0) → am_A G mX11_agrees X (am_rm 6 0 0) 54 [some (.ref 191), some (.int (iZ (q : Int))), some (.int (iZ (k : Int))), some (.int (iZ (s : Int))), some (.int (iZ (x : Int))), some (.int (iZ (y : Int)))] [] (215, kK, kR, I4, J2) 0 0 := by
        intro fuel
        induction fuel with
        | zero => intro x y s r I4 hx hy hq hF h37 hfu hk9; exact absurd hfu (Nat.not_lt_zero _)
        | succ fuel ih =>
          intro x y s r I4 hx hy hq hF h37 hfu hk9
          refine am_iload (q := 56) C dX11_agrees_54 rfl rfl ?_
          refine am_iload_n (q := 57) C dX11_agrees_56 rfl rfl ?_
          refine am_icmpZ_gt (q := 60) (tgt := 95) C dX11_agrees_57 (by decide) rfl ⟨by omega, by omega⟩ ⟨by omega, by omega⟩ (fun e1 => ?_) (fun e1 => ?_)
          · refine am_wkA (L1 := [some (.ref 191), some (.int (iZ (q : Int))), some (.int (iZ (k : Int))), some (.int (iZ (s : Int))), some (.int (iZ (x : Int))), none]) ⟨rfl, ⟨rfl, ⟨rfl, ⟨rfl, ⟨rfl, trivial⟩⟩⟩⟩⟩ ?_
            rw [show k + 1 - y = 0 by omega] at hq
            rw [show s = r from hq]
            exact hk9 I4 hF h37
          · refine am_iload_n (q := 61) C dX11_agrees_60 rfl rfl ?_
            refine am_aload_n (q := 62) C dX11_agrees_61 rfl rfl ?_
            refine am_iload_n (q := 63) C dX11_agrees_62 rfl rfl ?_
            refine am_iload (q := 65) C dX11_agrees_63 rfl rfl ?_
            refine am_iload (q := 67) C dX11_agrees_65 rfl rfl ?_
            refine am_callV (q := 70) (As := [.int (iZ (q : Int)), .int (iZ (x : Int)), .int (iZ (y : Int))]) (rest := [.int (iZ (s : Int))]) C mb_X11_formulaAt im_X11_formulaAt se_X11_formulaAt ml_X11_296 cb_11 kk_191 (show 191 < 215 by decide) dX11_agrees_67 rfl (sp_X11_formulaAt (hQ3.on (hF.1 0 (by omega)) (hF.2 192 (by omega)) (hF.2 193 (by omega)) (hF.2 194 (by omega)) rfl) hK (c := q) (by omega) (by omega) (rayM_on hR3 (hF.1 32 (by omega)) (fun z hz => hF.2 z hz)) h37 hT (x := (x : Int)) (y := (y : Int)) (by omega) (by omega)) rfl rfl ⟨by decide, by decide⟩ ⟨Nat.le_refl _, Nat.le_refl _⟩ (Nat.le_of_ble_eq_true rfl) (am_rl (fun v' w' hw' => ?_))
            obtain ⟨rfl, I5, rfl, h375, hk5, hh5⟩ := hw'
            refine am_aload_n (q := 71) C dX11_agrees_70 rfl rfl ?_
            refine am_iload (q := 73) C dX11_agrees_71 rfl rfl ?_
            refine am_iload (q := 75) C dX11_agrees_73 rfl rfl ?_
            refine am_callV (q := 78) (As := [.int (iZ (x : Int)), .int (iZ (y : Int))]) (rest := [.long (fmM σ.1 q (x : Int) (y : Int)), .int (iZ (s : Int))]) C mb_X11_freeAt im_X11_freeAt se_X11_freeAt ml_X11_195 cb_11 kk_191 (show 191 < 215 by decide) dX11_agrees_75 rfl (sp_X11_freeAt (cx := 149) (cy := 149) (by omega) (by omega) hT (x := (x : Int)) (y := (y : Int)) ⟨by omega, by omega⟩ ⟨by omega, by omega⟩ (by omega) (by omega)) rfl rfl ⟨by decide, by decide⟩ ⟨Nat.le_refl _, Nat.le_refl _⟩ (Nat.le_of_ble_eq_true rfl) (am_rle ?_)
            refine am_longE (show _ = Frz σ.1 (x : Int) (y : Int) from rfl) ?_
            refine am_lcmp (q := 79) C dX11_agrees_78 rfl ?_
            refine am_if_ne (q := 82) (tgt := 86) C dX11_agrees_79 (by decide) rfl (fun e2 => ?_) (fun e2 => ?_)
            · have e2 : ¬ (_) := fun z => e2 ((lg_cmp_eq (fmM σ.1 q (x : Int) (y : Int)) (Frz σ.1 (x : Int) (y : Int))).mpr z)
              refine am_iconst (q := 87) (v := iZ 0) C dX11_agrees_86 rfl rfl ?_
              refine am_iaddZ (q := 88) C dX11_agrees_87 rfl ?_
              refine am_intE (y := (iZ (s : Int))) (congrArg iZ (by omega)) ?_
              refine am_istore_n (q := 89) (L' := [some (.ref 191), some (.int (iZ (q : Int))), some (.int (iZ (k : Int))), some (.int (iZ (s : Int))), some (.int (iZ (x : Int))), some (.int (iZ (y : Int)))]) C dX11_agrees_88 rfl (by decide) rfl rfl ?_
              refine am_iincZ (q := 92) (L' := [some (.ref 191), some (.int (iZ (q : Int))), some (.int (iZ (k : Int))), some (.int (iZ (s : Int))), some (.int (iZ (x : Int))), some (.int (iZ ((y + 1 : Nat) : Int)))]) C dX11_agrees_89 rfl rfl (by omega) (by decide) rfl rfl ?_
              refine am_goto (q := 54) C dX11_agrees_92 (by decide) ?_
              have eb : agB σ.1 q x y = 0 := by
                unfold agB
                rw [← fm_eq hK]
                exact if_neg (by assumption)
              refine ih x (y + 1) s r I5 hx (by omega) ?_ ⟨fun z hz => (hk5 z hz).trans (hF.1 z hz), fun z hz => (hh5 z hz).trans (hF.2 z hz)⟩ h375 (by omega) hk9
              rw [← hq, show k + 1 - y = (k + 1 - (y + 1)) + 1 by omega]
              show _ = agI (agB σ.1 q x) (k + 1 - (y + 1)) (y + 1) (s + agB σ.1 q x y)
              rw [eb]
              rfl
            · have e2 := (lg_cmp_eq (fmM σ.1 q (x : Int) (y : Int)) (Frz σ.1 (x : Int) (y : Int))).mp e2
              refine am_iconst (q := 83) (v := iZ 1) C dX11_agrees_82 rfl rfl ?_
              refine am_goto (q := 87) C dX11_agrees_83 (by decide) ?_
              refine am_iaddZ (q := 88) C dX11_agrees_87 rfl ?_
              refine am_intE (y := (iZ ((s + 1 : Nat) : Int))) (congrArg iZ (by omega)) ?_
              refine am_istore_n (q := 89) (L' := [some (.ref 191), some (.int (iZ (q : Int))), some (.int (iZ (k : Int))), some (.int (iZ ((s + 1 : Nat) : Int))), some (.int (iZ (x : Int))), some (.int (iZ (y : Int)))]) C dX11_agrees_88 rfl (by decide) rfl rfl ?_
              refine am_iincZ (q := 92) (L' := [some (.ref 191), some (.int (iZ (q : Int))), some (.int (iZ (k : Int))), some (.int (iZ ((s + 1 : Nat) : Int))), some (.int (iZ (x : Int))), some (.int (iZ ((y + 1 : Nat) : Int)))]) C dX11_agrees_89 rfl rfl (by omega) (by decide) rfl rfl ?_
              refine am_goto (q := 54) C dX11_agrees_92 (by decide) ?_
              have eb : agB σ.1 q x y = 1 := by
                unfold agB
                rw [← fm_eq hK]
                exact if_pos (by assumption)
              refine ih x (y + 1) (s + 1) r I5 hx (by omega) ?_ ⟨fun z hz => (hk5 z hz).trans (hF.1 z hz), fun z hz => (hh5 z hz).trans (hF.2 z hz)⟩ h375 (by omega) hk9
              rw [← hq, show k + 1 - y = (k + 1 - (y + 1)) + 1 by omega]
              show _ = agI (agB σ.1 q x) (k + 1 - (y + 1)) (y + 1) (s + agB σ.1 q x y)
              rw [eb]
      have lo : ∀ (fuel : Nat) (x s : Nat) (I4 : Nat → Nat → Int32), (x ≤ k + 1) → (agO (agB σ.1 q) k (k + 1 - x) x s = agO (agB σ.1 q) k (k + 1) 0 0) → ((∀ z, z < 33 → I4 191 z = I3 191 z) ∧ ∀ z, z ≠ 191 → I4 z = I3 z) → (I4 191 37 = iZ (perP σ.1 (pm σ.1) : Int)) → (k + 1 - x) < fuel → am_A G mX11_agrees X (am_rm 6 0 0) 45 [some (.ref 191), some (.int (iZ (q : Int))), some (.int (iZ (k : Int))), some (.int (iZ (s : Int))), some (.int (iZ (x : Int))), none] [] (215, kK, kR, I4, J2) 0 0 := by
        intro fuel
        induction fuel with
        | zero => intro x s I4 hx hq hF h37 hf; exact absurd hf (Nat.not_lt_zero _)
        | succ fuel ih =>
          intro x s I4 hx hq hF h37 hf
          refine am_iload (q := 47) C dX11_agrees_45 rfl rfl ?_
          refine am_iload_n (q := 48) C dX11_agrees_47 rfl rfl ?_
          refine am_icmpZ_gt (q := 51) (tgt := 101) C dX11_agrees_48 (by decide) rfl ⟨by omega, by omega⟩ ⟨by omega, by omega⟩ (fun g1 => ?_) (fun g1 => ?_)
          · refine am_iload_n (q := 102) C dX11_agrees_101 rfl rfl ?_
            refine am_iret C T dX11_agrees_102 rfl (Nat.le_refl _) (Nat.le_refl _) ⟨_, rfl, ?_⟩
            have e1 : agreesA σ.1 (q : Int) (k : Int) = (s : Int) := by
              unfold agreesA
              rw [if_pos (by omega), Int.toNat_natCast, Int.toNat_natCast, ← hq, show k + 1 - x = 0 by omega]
              rfl
            rw [e1]
            have hf5 := frS_tr hf3 (frS_37 (J := J2) hF.1 hF.2)
            exact ⟨rfl, _, _, rfl, hM.scr hf5, hf5.M⟩
          · refine am_iconst (q := 52) (v := iZ 0) C dX11_agrees_51 rfl rfl ?_
            refine am_istore (q := 54) (L' := [some (.ref 191), some (.int (iZ (q : Int))), some (.int (iZ (k : Int))), some (.int (iZ (s : Int))), some (.int (iZ (x : Int))), some (.int (iZ 0))]) C dX11_agrees_52 rfl (by decide) rfl rfl ?_
            refine li (k + 2) x 0 s (agI (agB σ.1 q x) (k + 1) 0 s) I4 (by omega) (by omega) rfl hF h37 (by omega) (fun I4 hF h37 => ?_)
            refine am_iincZ (q := 98) (L' := [some (.ref 191), some (.int (iZ (q : Int))), some (.int (iZ (k : Int))), some (.int (iZ (agI (agB σ.1 q x) (k + 1) 0 s : Int))), some (.int (iZ ((x + 1 : Nat) : Int))), none]) C dX11_agrees_95 rfl rfl (by omega) (by decide) rfl rfl ?_
            refine am_goto (q := 45) C dX11_agrees_98 (by decide) ?_
            refine ih (x + 1) (agI (agB σ.1 q x) (k + 1) 0 s) I4 (by omega) ?_ hF h37 (by omega)
            rw [← hq, show k + 1 - x = (k + 1 - (x + 1)) + 1 by omega]
            rfl
      exact lo (k + 2) 0 0 I3 (by omega) rfl ⟨fun z _ => rfl, fun z _ => rfl⟩ hper3 (by omega)
    · refine am_iconst (q := 21) (v := iZ (-1)) C dX11_agrees_20 rfl rfl ?_
      refine am_iret C T dX11_agrees_21 rfl (Nat.le_refl _) (Nat.le_refl _) ⟨_, rfl, ?_⟩
      have e1 : agreesA σ.1 p n = -1 := if_neg (by omega)
      rw [e1]
      exact ⟨rfl, _, _, rfl, hM.scr hf, hf.M⟩
