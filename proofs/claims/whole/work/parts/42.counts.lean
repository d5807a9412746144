variable {G : am_G} {I : Nat → Nat → Int32} {J : Nat → Nat → Int64}
def Frz (t : PT) (x y : Int) : Int64 := if 0 ≤ x ∧ 0 ≤ y then Fr t (pm t) x.toNat y.toNat else 0
theorem atC_free {σ : SG} {I' : Nat → Nat → Int32} {J' : Nat → Nat → Int64} (h : atC I J σ) (hF : freeOK I' J' σ.1) (hI : ∀ x, x ≠ 174 → I' x = I x) (hJ : ∀ x, x ≠ 175 → J' x = J x) : atC I' J' σ := by
  obtain ⟨h1, h2, ⟨v1, v2, v3⟩, ⟨n, h4⟩, h5⟩ := h
  exact ⟨h1.on (fun a h8 h9 => hI a (by omega)) (hJ 5 (by omega)), h2, ⟨v1.on (fun x g1 g2 => hI x (by omega)), hF, v3.on (hI 176 (by omega)) (hJ 177 (by omega))⟩, ⟨n, h4.on (fun x h8 h9 => ⟨hI x (by omega), hJ x (by omega)⟩)⟩, h5.on (fun x hx => ⟨hI x (by omega), hJ x (by omega)⟩)⟩
theorem atC_ways {σ : SG} {I' : Nat → Nat → Int32} {J' : Nat → Nat → Int64} (h : atC I J σ) (hF : waysOK I' J' σ.1) (hI : ∀ x, x ≠ 176 → I' x = I x) (hJ : ∀ x, x ≠ 177 → J' x = J x) : atC I' J' σ := by
  obtain ⟨h1, h2, ⟨v1, v2, v3⟩, ⟨n, h4⟩, h5⟩ := h
  exact ⟨h1.on (fun a h8 h9 => hI a (by omega)) (hJ 5 (by omega)), h2, ⟨v1.on (fun x g1 g2 => hI x (by omega)), v2.on (hI 174 (by omega)) (hJ 175 (by omega)), hF⟩, ⟨n, h4.on (fun x h8 h9 => ⟨hI x (by omega), hJ x (by omega)⟩)⟩, h5.on (fun x hx => ⟨hI x (by omega), hJ x (by omega)⟩)⟩
theorem atC_fold {σ : SG} {J' : Nat → Nat → Int64} (h : atC I J σ) (hJ : ∀ x, x ≠ 179 → J' x = J x) : atC I J' σ := by
  obtain ⟨h1, h2, ⟨v1, v2, v3⟩, ⟨n, h4⟩, h5⟩ := h
  exact ⟨h1.on (fun a h8 h9 => rfl) (hJ 5 (by omega)), h2, ⟨v1, v2.on rfl (hJ 175 (by omega)), v3.on rfl (hJ 177 (by omega))⟩, ⟨n, h4.on (fun x h8 h9 => ⟨rfl, hJ x (by omega)⟩)⟩, h5.on (fun x hx => ⟨rfl, hJ x (by omega)⟩)⟩
theorem free_at {t : PT} {kx ky x y : Int} (hT : tabF J kx ky (Fr t (pm t))) (hx : x ≤ kx) (hy : y ≤ ky) : (if 0 ≤ x ∧ x ≤ kx ∧ 0 ≤ y ∧ y ≤ ky then J 175 (x.toNat * 144 + y.toNat) else 0) = Frz t x y := by
  unfold Frz
  by_cases e : 0 ≤ x ∧ 0 ≤ y
  · rw [if_pos e, if_pos (by omega)]; exact hT _ _ (by omega) (by omega)
  · rw [if_neg e, if_neg (by omega)]
theorem ways_at {t : PT} {kx ky x y : Int} (hT : tabW J kx ky t 0) (h0 : 0 ≤ x ∧ 0 ≤ y) (hx : x ≤ kx) (hy : y ≤ ky) : (if 0 ≤ (0 : Int) ∧ (0 : Int) < 7 ∧ 0 ≤ x ∧ x ≤ kx ∧ 0 ≤ y ∧ y ≤ ky then J 177 (((0 : Int).toNat * 61 + x.toNat) * 61 + y.toNat) else 0) = lN (Wy t (pm t) x.toNat y.toNat) := by
  rw [if_pos (by omega)]; exact hT 0 _ _ (by omega) (by omega) (by omega) (by omega)
set_option maxRecDepth 4000 in
theorem sp_X10_ways {σ : SG} (hC : atC I J σ) {x y : Int} (hx : rg x) (hy : rg y) : am_S G mX10_ways 6 0 0 [.ref 0, .int (iZ x), .int (iZ y)] (215, kK, kR, I, J) (am_ql (fun v w' => v = (if 0 ≤ x ∧ x ≤ 60 ∧ 0 ≤ y ∧ y ≤ 60 then lN (Wy σ.1 (pm σ.1) x.toNat y.toNat) else (-9223372036854775808)) ∧ ∃ (I' : Nat → Nat → Int32) (J' : Nat → Nat → Int64), w' = (215, kK, kR, I', J') ∧ atC I' J' (σ) ∧ frC I J I' J')) := by
  refine am_spec (plainFor_of_name (by decide +kernel)) (Nat.le_of_ble_eq_true rfl) (L := [some (.ref 0), some (.int (iZ x)), some (.int (iZ y))]) rfl (fun X C T => ?_)
  refine am_iload_n (q := 1) C dX10_ways_0 rfl rfl ?_
  refine am_iload_n (q := 2) C dX10_ways_1 rfl rfl ?_
  refine am_bipush (q := 4) (v := iZ 60) C dX10_ways_2 rfl rfl ?_
  refine am_callS (q := 7) (As := [.int (iZ x), .int (iZ y), .int (iZ 60)]) (rest := []) C mb_X10_isPoint st_X10_isPoint ml_X10_164 dX10_ways_4 rfl (sp_X10_isPoint (c := 60) hx hy ⟨by omega, by omega⟩) rfl rfl ⟨by decide, by decide⟩ ⟨Nat.le_refl _, Nat.le_refl _⟩ (Nat.le_of_ble_eq_true rfl) (am_rie ?_)
  refine am_ifB_ne (q := 10) (tgt := 14) C dX10_ways_7 (by decide) rfl (fun c1 => ?_) (fun c1 => ?_)
  · refine am_aload_n (q := 15) C dX10_ways_14 rfl rfl ?_
    refine am_getR (q := 18) C fb_X10_59 dX10_ways_15 rfl rfl kk_0 (show 0 < 215 by decide) kr_0_7 ?_
    refine am_iload_n (q := 19) C dX10_ways_18 rfl rfl ?_
    refine am_iload_n (q := 20) C dX10_ways_19 rfl rfl ?_
    refine am_aload_n (q := 21) C dX10_ways_20 rfl rfl ?_
    refine am_getR (q := 24) C fb_X10_14 dX10_ways_21 rfl rfl kk_0 (show 0 < 215 by decide) kr_0_0 ?_
    refine am_callN (q := 27) (As := [.int (iZ x), .int (iZ y), .ref 1]) (rest := []) C mb_X9_reach im_X9_reach se_X9_reach mn_X10_170 cb_9 kk_176 (show 176 < 215 by decide) dX10_ways_24 rfl (sp_X9_reach hC.1 hC.2.1 hC.2.2.1.2.2 (x := x) (y := y) (by omega) (by omega)) rfl rfl ⟨by decide, by decide⟩ ⟨Nat.le_refl _, Nat.le_refl _⟩ (Nat.le_of_ble_eq_true rfl) (am_rv (fun w' hw' => ?_))
    obtain ⟨I1, J1, rfl, ⟨kx, ky, hkn, hT1, hkx, hky⟩, hI1, hJ1⟩ := hw'
    have hC1 : atC I1 J1 σ := atC_ways hC ⟨kx, ky, hkn, hT1⟩ hI1 hJ1
    have hfr : frC I J I1 J1 := fun z hz => ⟨hI1 z (by omega), hJ1 z (by omega)⟩
    refine am_aload_n (q := 28) C dX10_ways_27 rfl rfl ?_
    refine am_getR (q := 31) C fb_X10_59 dX10_ways_28 rfl rfl kk_0 (show 0 < 215 by decide) kr_0_7 ?_
    refine am_iconst (q := 32) (v := iZ 0) C dX10_ways_31 rfl rfl ?_
    refine am_iload_n (q := 33) C dX10_ways_32 rfl rfl ?_
    refine am_iload_n (q := 34) C dX10_ways_33 rfl rfl ?_
    refine am_callN (q := 37) (As := [.int (iZ 0), .int (iZ x), .int (iZ y)]) (rest := []) C mb_X9_at im_X9_at se_X9_at mn_X10_174 cb_9 kk_176 (show 176 < 215 by decide) dX10_ways_34 rfl (sp_X9_at hkn (l := 0) (x := x) (y := y) ⟨by omega, by omega⟩ hx hy) rfl rfl ⟨by decide, by decide⟩ ⟨Nat.le_refl _, Nat.le_refl _⟩ (Nat.le_of_ble_eq_true rfl) (am_rle ?_)
    refine am_longE (y := lN (Wy σ.1 (pm σ.1) x.toNat y.toNat)) (ways_at hT1 (by omega) (by omega) (by omega)) ?_
    refine am_lret C T dX10_ways_37 rfl (Nat.le_refl _) (Nat.le_refl _) ⟨_, rfl, ?_⟩
    rw [if_pos (by omega)]
    exact ⟨rfl, _, _, rfl, hC1, hfr⟩
  · refine am_ldc2 (q := 13) C dX10_ways_10 rfl ck_X10_168 ?_
    refine am_lret C T dX10_ways_13 rfl (Nat.le_refl _) (Nat.le_refl _) ⟨_, rfl, ?_⟩
    rw [if_neg (by omega)]
    exact ⟨rfl, _, _, rfl, hC, frC_refl⟩
set_option maxRecDepth 4000 in
theorem sp_X10_free {σ : SG} (hC : atC I J σ) {x y : Int} (hx : rg x) (hy : rg y) : am_S G mX10_free 6 0 0 [.ref 0, .int (iZ x), .int (iZ y)] (215, kK, kR, I, J) (am_ql (fun v w' => v = (if 0 ≤ x ∧ x ≤ 60 ∧ 0 ≤ y ∧ y ≤ 60 then Frz σ.1 x y else (-9223372036854775808)) ∧ ∃ (I' : Nat → Nat → Int32) (J' : Nat → Nat → Int64), w' = (215, kK, kR, I', J') ∧ atC I' J' (σ) ∧ frC I J I' J')) := by
  refine am_spec (plainFor_of_name (by decide +kernel)) (Nat.le_of_ble_eq_true rfl) (L := [some (.ref 0), some (.int (iZ x)), some (.int (iZ y))]) rfl (fun X C T => ?_)
  refine am_iload_n (q := 1) C dX10_free_0 rfl rfl ?_
  refine am_iload_n (q := 2) C dX10_free_1 rfl rfl ?_
  refine am_bipush (q := 4) (v := iZ 60) C dX10_free_2 rfl rfl ?_
  refine am_callS (q := 7) (As := [.int (iZ x), .int (iZ y), .int (iZ 60)]) (rest := []) C mb_X10_isPoint st_X10_isPoint ml_X10_164 dX10_free_4 rfl (sp_X10_isPoint (c := 60) hx hy ⟨by omega, by omega⟩) rfl rfl ⟨by decide, by decide⟩ ⟨Nat.le_refl _, Nat.le_refl _⟩ (Nat.le_of_ble_eq_true rfl) (am_rie ?_)
  refine am_ifB_ne (q := 10) (tgt := 14) C dX10_free_7 (by decide) rfl (fun c1 => ?_) (fun c1 => ?_)
  · refine am_aload_n (q := 15) C dX10_free_14 rfl rfl ?_
    refine am_getR (q := 18) C fb_X10_52 dX10_free_15 rfl rfl kk_0 (show 0 < 215 by decide) kr_0_6 ?_
    refine am_iload_n (q := 19) C dX10_free_18 rfl rfl ?_
    refine am_iload_n (q := 20) C dX10_free_19 rfl rfl ?_
    refine am_aload_n (q := 21) C dX10_free_20 rfl rfl ?_
    refine am_getR (q := 24) C fb_X10_14 dX10_free_21 rfl rfl kk_0 (show 0 < 215 by decide) kr_0_0 ?_
    refine am_callN (q := 27) (As := [.int (iZ x), .int (iZ y), .ref 1]) (rest := []) C mb_X4_reach im_X4_reach se_X4_reach mn_X10_178 cb_4 kk_174 (show 174 < 215 by decide) dX10_free_24 rfl (sp_X4_reach hC.1 hC.2.1 hC.2.2.1.2.1 (x := x) (y := y) (by omega) (by omega)) rfl rfl ⟨by decide, by decide⟩ ⟨Nat.le_refl _, Nat.le_refl _⟩ (Nat.le_of_ble_eq_true rfl) (am_rv (fun w' hw' => ?_))
    obtain ⟨I1, J1, rfl, ⟨kx, ky, hkn, hT1, hkx, hky⟩, hI1, hJ1⟩ := hw'
    have hC1 : atC I1 J1 σ := atC_free hC ⟨kx, ky, hkn, hT1⟩ hI1 hJ1
    have hfr : frC I J I1 J1 := fun z hz => ⟨hI1 z (by omega), hJ1 z (by omega)⟩
    refine am_aload_n (q := 28) C dX10_free_27 rfl rfl ?_
    refine am_getR (q := 31) C fb_X10_52 dX10_free_28 rfl rfl kk_0 (show 0 < 215 by decide) kr_0_6 ?_
    refine am_iload_n (q := 32) C dX10_free_31 rfl rfl ?_
    refine am_iload_n (q := 33) C dX10_free_32 rfl rfl ?_
    refine am_callN (q := 36) (As := [.int (iZ x), .int (iZ y)]) (rest := []) C mb_X4_at im_X4_at se_X4_at mn_X10_179 cb_4 kk_174 (show 174 < 215 by decide) dX10_free_33 rfl (sp_X4_at hkn (x := x) (y := y) ⟨by omega, by omega⟩ ⟨by omega, by omega⟩) rfl rfl ⟨by decide, by decide⟩ ⟨Nat.le_refl _, Nat.le_refl _⟩ (Nat.le_of_ble_eq_true rfl) (am_rle ?_)
    refine am_longE (y := Frz σ.1 (x) (y)) (free_at hT1 (by omega) (by omega)) ?_
    refine am_lret C T dX10_free_36 rfl (Nat.le_refl _) (Nat.le_refl _) ⟨_, rfl, ?_⟩
    rw [if_pos (by omega)]
    exact ⟨rfl, _, _, rfl, hC1, hfr⟩
  · refine am_ldc2 (q := 13) C dX10_free_10 rfl ck_X10_168 ?_
    refine am_lret C T dX10_free_13 rfl (Nat.le_refl _) (Nat.le_refl _) ⟨_, rfl, ?_⟩
    rw [if_neg (by omega)]
    exact ⟨rfl, _, _, rfl, hC, frC_refl⟩
set_option maxRecDepth 4000 in
theorem sp_X10_strict {σ : SG} (hC : atC I J σ) {x y : Int} (hx : rg x) (hy : rg y) : am_S G mX10_strict 6 0 0 [.ref 0, .int (iZ x), .int (iZ y)] (215, kK, kR, I, J) (am_ql (fun v w' => v = (if 0 ≤ x ∧ x ≤ 60 ∧ 0 ≤ y ∧ y ≤ 60 then Frz σ.1 (x - (sumN (pa σ.1) (pm σ.1) : Int)) (y - (sumN (pb σ.1) (pm σ.1) : Int)) else (-9223372036854775808)) ∧ ∃ (I' : Nat → Nat → Int32) (J' : Nat → Nat → Int64), w' = (215, kK, kR, I', J') ∧ atC I' J' (σ) ∧ frC I J I' J')) := by
  have hm := hC.2.1.1
  have sa := sumN_le (pa σ.1) (c := 4) (pm σ.1) (fun p hp => (hC.2.1.2 p hp).1)
  have sb := sumN_le (pb σ.1) (c := 4) (pm σ.1) (fun p hp => (hC.2.1.2 p hp).2.1)
  refine am_spec (plainFor_of_name (by decide +kernel)) (Nat.le_of_ble_eq_true rfl) (L := [some (.ref 0), some (.int (iZ x)), some (.int (iZ y))]) rfl (fun X C T => ?_)
  refine am_iload_n (q := 1) C dX10_strict_0 rfl rfl ?_
  refine am_iload_n (q := 2) C dX10_strict_1 rfl rfl ?_
  refine am_bipush (q := 4) (v := iZ 60) C dX10_strict_2 rfl rfl ?_
  refine am_callS (q := 7) (As := [.int (iZ x), .int (iZ y), .int (iZ 60)]) (rest := []) C mb_X10_isPoint st_X10_isPoint ml_X10_164 dX10_strict_4 rfl (sp_X10_isPoint (c := 60) hx hy ⟨by omega, by omega⟩) rfl rfl ⟨by decide, by decide⟩ ⟨Nat.le_refl _, Nat.le_refl _⟩ (Nat.le_of_ble_eq_true rfl) (am_rie ?_)
  refine am_ifB_ne (q := 10) (tgt := 14) C dX10_strict_7 (by decide) rfl (fun c1 => ?_) (fun c1 => ?_)
  · refine am_aload_n (q := 15) C dX10_strict_14 rfl rfl ?_
    refine am_getR (q := 18) C fb_X10_52 dX10_strict_15 rfl rfl kk_0 (show 0 < 215 by decide) kr_0_6 ?_
    refine am_iload_n (q := 19) C dX10_strict_18 rfl rfl ?_
    refine am_iload_n (q := 20) C dX10_strict_19 rfl rfl ?_
    refine am_aload_n (q := 21) C dX10_strict_20 rfl rfl ?_
    refine am_getR (q := 24) C fb_X10_14 dX10_strict_21 rfl rfl kk_0 (show 0 < 215 by decide) kr_0_0 ?_
    refine am_callN (q := 27) (As := [.int (iZ x), .int (iZ y), .ref 1]) (rest := []) C mb_X4_reach im_X4_reach se_X4_reach mn_X10_178 cb_4 kk_174 (show 174 < 215 by decide) dX10_strict_24 rfl (sp_X4_reach hC.1 hC.2.1 hC.2.2.1.2.1 (x := x) (y := y) (by omega) (by omega)) rfl rfl ⟨by decide, by decide⟩ ⟨Nat.le_refl _, Nat.le_refl _⟩ (Nat.le_of_ble_eq_true rfl) (am_rv (fun w' hw' => ?_))
    obtain ⟨I1, J1, rfl, ⟨kx, ky, hkn, hT1, hkx, hky⟩, hI1, hJ1⟩ := hw'
    have hC1 : atC I1 J1 σ := atC_free hC ⟨kx, ky, hkn, hT1⟩ hI1 hJ1
    have hfr : frC I J I1 J1 := fun z hz => ⟨hI1 z (by omega), hJ1 z (by omega)⟩
    refine am_aload_n (q := 28) C dX10_strict_27 rfl rfl ?_
    refine am_getR (q := 31) C fb_X10_52 dX10_strict_28 rfl rfl kk_0 (show 0 < 215 by decide) kr_0_6 ?_
    refine am_iload_n (q := 32) C dX10_strict_31 rfl rfl ?_
    refine am_aload_n (q := 33) C dX10_strict_32 rfl rfl ?_
    refine am_getR (q := 36) C fb_X10_14 dX10_strict_33 rfl rfl kk_0 (show 0 < 215 by decide) kr_0_0 ?_
    refine am_callN (q := 39) (As := []) (rest := [.int (iZ x), .ref 174]) C mb_X5_acrossTogether im_X5_acrossTogether se_X5_acrossTogether mn_X10_182 cb_5 kk_1 (show 1 < 215 by decide) dX10_strict_36 rfl (sp_X5_acrossTogether isP_1 hC1.1 hC1.2.1) rfl rfl ⟨by decide, by decide⟩ ⟨Nat.le_refl _, Nat.le_refl _⟩ (Nat.le_of_ble_eq_true rfl) (am_rie ?_)
    refine am_isubZ (q := 40) C dX10_strict_39 rfl ?_
    refine am_iload_n (q := 41) C dX10_strict_40 rfl rfl ?_
    refine am_aload_n (q := 42) C dX10_strict_41 rfl rfl ?_
    refine am_getR (q := 45) C fb_X10_14 dX10_strict_42 rfl rfl kk_0 (show 0 < 215 by decide) kr_0_0 ?_
    refine am_callN (q := 48) (As := []) (rest := [.int (iZ y), .int (iZ (x - (sumN (pa σ.1) (pm σ.1) : Int))), .ref 174]) C mb_X5_upTogether im_X5_upTogether se_X5_upTogether mn_X10_186 cb_5 kk_1 (show 1 < 215 by decide) dX10_strict_45 rfl (sp_X5_upTogether isP_1 hC1.1 hC1.2.1) rfl rfl ⟨by decide, by decide⟩ ⟨Nat.le_refl _, Nat.le_refl _⟩ (Nat.le_of_ble_eq_true rfl) (am_rie ?_)
    refine am_isubZ (q := 49) C dX10_strict_48 rfl ?_
    refine am_callN (q := 52) (As := [.int (iZ (x - (sumN (pa σ.1) (pm σ.1) : Int))), .int (iZ (y - (sumN (pb σ.1) (pm σ.1) : Int)))]) (rest := []) C mb_X4_at im_X4_at se_X4_at mn_X10_179 cb_4 kk_174 (show 174 < 215 by decide) dX10_strict_49 rfl (sp_X4_at hkn (x := x - (sumN (pa σ.1) (pm σ.1) : Int)) (y := y - (sumN (pb σ.1) (pm σ.1) : Int)) ⟨by omega, by omega⟩ ⟨by omega, by omega⟩) rfl rfl ⟨by decide, by decide⟩ ⟨Nat.le_refl _, Nat.le_refl _⟩ (Nat.le_of_ble_eq_true rfl) (am_rle ?_)
    refine am_longE (y := Frz σ.1 (x - (sumN (pa σ.1) (pm σ.1) : Int)) (y - (sumN (pb σ.1) (pm σ.1) : Int))) (free_at hT1 (by omega) (by omega)) ?_
    refine am_lret C T dX10_strict_52 rfl (Nat.le_refl _) (Nat.le_refl _) ⟨_, rfl, ?_⟩
    rw [if_pos (by omega)]
    exact ⟨rfl, _, _, rfl, hC1, hfr⟩
  · refine am_ldc2 (q := 13) C dX10_strict_10 rfl ck_X10_168 ?_
    refine am_lret C T dX10_strict_13 rfl (Nat.le_refl _) (Nat.le_refl _) ⟨_, rfl, ?_⟩
    rw [if_neg (by omega)]
    exact ⟨rfl, _, _, rfl, hC, frC_refl⟩
set_option maxRecDepth 4000 in
theorem sp_X10_way {σ : SG} (hC : atC I J σ) {x y : Int} (hx : rg x) (hy : rg y) {i p : Int} (hi : rg i) (hp : rg p) : am_S G mX10_way 6 0 0 [.ref 0, .int (iZ x), .int (iZ y), .int (iZ i), .int (iZ p)] (215, kK, kR, I, J) (am_qi (fun v w' => v = iZ (if (0 ≤ x ∧ x ≤ 60 ∧ 0 ≤ y ∧ y ≤ 60) ∧ 0 ≤ i ∧ 0 ≤ p ∧ p < pm σ.1 then (if i.toNat < Wy σ.1 (pm σ.1) x.toNat y.toNat then (tak σ.1 p.toNat (p.toNat + 1) 0 x.toNat y.toNat i.toNat : Int) else -3) else -1) ∧ ∃ (I' : Nat → Nat → Int32) (J' : Nat → Nat → Int64), w' = (215, kK, kR, I', J') ∧ atC I' J' (σ) ∧ frC I J I' J')) := by
  have hi2 := hi.2
  refine am_spec (plainFor_of_name (by decide +kernel)) (Nat.le_of_ble_eq_true rfl) (L := [some (.ref 0), some (.int (iZ x)), some (.int (iZ y)), some (.int (iZ i)), some (.int (iZ p))]) rfl (fun X C T => ?_)
  refine am_iload_n (q := 1) C dX10_way_0 rfl rfl ?_
  refine am_iload_n (q := 2) C dX10_way_1 rfl rfl ?_
  refine am_bipush (q := 4) (v := iZ 60) C dX10_way_2 rfl rfl ?_
  refine am_callS (q := 7) (As := [.int (iZ x), .int (iZ y), .int (iZ 60)]) (rest := []) C mb_X10_isPoint st_X10_isPoint ml_X10_164 dX10_way_4 rfl (sp_X10_isPoint (c := 60) hx hy ⟨by omega, by omega⟩) rfl rfl ⟨by decide, by decide⟩ ⟨Nat.le_refl _, Nat.le_refl _⟩ (Nat.le_of_ble_eq_true rfl) (am_rie ?_)
  refine am_ifB_eq (q := 10) (tgt := 26) C dX10_way_7 (by decide) rfl (fun c1 => ?_) (fun c1 => ?_)
  · refine am_iconst (q := 27) (v := iZ (-1)) C dX10_way_26 rfl rfl ?_
    refine am_iret C T dX10_way_27 rfl (Nat.le_refl _) (Nat.le_refl _) ⟨_, rfl, ?_⟩
    rw [if_neg (by omega)]
    exact ⟨rfl, _, _, rfl, hC, frC_refl⟩
  · refine am_iload_n (q := 11) C dX10_way_10 rfl rfl ?_
    refine am_ifZ_lt (q := 14) (tgt := 26) C dX10_way_11 (by decide) rfl hi (fun c2 => ?_) (fun c2 => ?_)
    · refine am_iconst (q := 27) (v := iZ (-1)) C dX10_way_26 rfl rfl ?_
      refine am_iret C T dX10_way_27 rfl (Nat.le_refl _) (Nat.le_refl _) ⟨_, rfl, ?_⟩
      rw [if_neg (by omega)]
      exact ⟨rfl, _, _, rfl, hC, frC_refl⟩
    · refine am_aload_n (q := 15) C dX10_way_14 rfl rfl ?_
      refine am_getR (q := 18) C fb_X10_14 dX10_way_15 rfl rfl kk_0 (show 0 < 215 by decide) kr_0_0 ?_
      refine am_iload (q := 20) C dX10_way_18 rfl rfl ?_
      refine am_callN (q := 23) (As := [.int (iZ p)]) (rest := []) C mb_X5_has im_X5_has se_X5_has mn_X10_113 cb_5 kk_1 (show 1 < 215 by decide) dX10_way_20 rfl (sp_X5_has isP_1 hC.1 hC.2.1 hp) rfl rfl ⟨by decide, by decide⟩ ⟨Nat.le_refl _, Nat.le_refl _⟩ (Nat.le_of_ble_eq_true rfl) (am_rie ?_)
      refine am_ifB_ne (q := 26) (tgt := 28) C dX10_way_23 (by decide) rfl (fun c3 => ?_) (fun c3 => ?_)
      · refine am_aload_n (q := 29) C dX10_way_28 rfl rfl ?_
        refine am_getR (q := 32) C fb_X10_59 dX10_way_29 rfl rfl kk_0 (show 0 < 215 by decide) kr_0_7 ?_
        refine am_iload_n (q := 33) C dX10_way_32 rfl rfl ?_
        refine am_iload_n (q := 34) C dX10_way_33 rfl rfl ?_
        refine am_aload_n (q := 35) C dX10_way_34 rfl rfl ?_
        refine am_getR (q := 38) C fb_X10_14 dX10_way_35 rfl rfl kk_0 (show 0 < 215 by decide) kr_0_0 ?_
        refine am_callN (q := 41) (As := [.int (iZ x), .int (iZ y), .ref 1]) (rest := []) C mb_X9_reach im_X9_reach se_X9_reach mn_X10_170 cb_9 kk_176 (show 176 < 215 by decide) dX10_way_38 rfl (sp_X9_reach hC.1 hC.2.1 hC.2.2.1.2.2 (x := x) (y := y) (by omega) (by omega)) rfl rfl ⟨by decide, by decide⟩ ⟨Nat.le_refl _, Nat.le_refl _⟩ (Nat.le_of_ble_eq_true rfl) (am_rv (fun w' hw' => ?_))
        obtain ⟨I1, J1, rfl, ⟨kx, ky, hkn, hT1, hkx, hky⟩, hI1, hJ1⟩ := hw'
        have hC1 : atC I1 J1 σ := atC_ways hC ⟨kx, ky, hkn, hT1⟩ hI1 hJ1
        have hfr : frC I J I1 J1 := fun z hz => ⟨hI1 z (by omega), hJ1 z (by omega)⟩
        refine am_iload_n (q := 42) C dX10_way_41 rfl rfl ?_
        refine am_i2lZ (q := 43) C dX10_way_42 rfl hi ?_
        refine am_longE (y := (lN i.toNat)) (show Int64.ofInt i = lN i.toNat by rw [show i = (i.toNat : Int) by omega]; rfl) ?_
        refine am_aload_n (q := 44) C dX10_way_43 rfl rfl ?_
        refine am_getR (q := 47) C fb_X10_59 dX10_way_44 rfl rfl kk_0 (show 0 < 215 by decide) kr_0_7 ?_
        refine am_iconst (q := 48) (v := iZ 0) C dX10_way_47 rfl rfl ?_
        refine am_iload_n (q := 49) C dX10_way_48 rfl rfl ?_
        refine am_iload_n (q := 50) C dX10_way_49 rfl rfl ?_
        refine am_callN (q := 53) (As := [.int (iZ 0), .int (iZ x), .int (iZ y)]) (rest := [.long (lN i.toNat)]) C mb_X9_at im_X9_at se_X9_at mn_X10_174 cb_9 kk_176 (show 176 < 215 by decide) dX10_way_50 rfl (sp_X9_at hkn (l := 0) (x := x) (y := y) ⟨by omega, by omega⟩ hx hy) rfl rfl ⟨by decide, by decide⟩ ⟨Nat.le_refl _, Nat.le_refl _⟩ (Nat.le_of_ble_eq_true rfl) (am_rle ?_)
        refine am_longE (y := lN (Wy σ.1 (pm σ.1) x.toNat y.toNat)) (ways_at hT1 (by omega) (by omega) (by omega)) ?_
        refine am_lcmp (q := 54) C dX10_way_53 rfl ?_
        refine am_if_lt (q := 57) (tgt := 60) C dX10_way_54 (by decide) rfl (fun c4 => ?_) (fun c4 => ?_)
        · have c4 := ((lg_cmp_lt _ _).trans (pk_lLT (by omega) (by have := Wy_le σ.1 (q := pm σ.1) hC.2.1.1 x.toNat y.toNat; omega))).mp c4
          rw [show iZ x = iZ (x.toNat : Int) from congrArg iZ (by omega), show iZ y = iZ (y.toNat : Int) from congrArg iZ (by omega), show iZ i = iZ (i.toNat : Int) from congrArg iZ (by omega), show iZ p = iZ (p.toNat : Int) from congrArg iZ (by omega)]
          refine am_aload_n (q := 61) C dX10_way_60 rfl rfl ?_
          refine am_getR (q := 64) C fb_X10_59 dX10_way_61 rfl rfl kk_0 (show 0 < 215 by decide) kr_0_7 ?_
          refine am_iload_n (q := 65) C dX10_way_64 rfl rfl ?_
          refine am_iload_n (q := 66) C dX10_way_65 rfl rfl ?_
          refine am_iload_n (q := 67) C dX10_way_66 rfl rfl ?_
          refine am_iload (q := 69) C dX10_way_67 rfl rfl ?_
          refine am_aload_n (q := 70) C dX10_way_69 rfl rfl ?_
          refine am_getR (q := 73) C fb_X10_14 dX10_way_70 rfl rfl kk_0 (show 0 < 215 by decide) kr_0_0 ?_
          refine am_callN (q := 76) (As := [.int (iZ (x.toNat : Int)), .int (iZ (y.toNat : Int)), .int (iZ (i.toNat : Int)), .int (iZ (p.toNat : Int)), .ref 1]) (rest := []) C mb_X9_taken im_X9_taken se_X9_taken mn_X10_189 cb_9 kk_176 (show 176 < 215 by decide) dX10_way_73 rfl (sp_X9_taken hkn hC1.1 hC1.2.1 hT1 (part := p.toNat) (x := x.toNat) (y := y.toNat) (i := i.toNat) (by omega) (by omega) (by omega) (by omega) (by omega)) rfl rfl ⟨by decide, by decide⟩ ⟨Nat.le_refl _, Nat.le_refl _⟩ (Nat.le_of_ble_eq_true rfl) (am_rie ?_)
          refine am_iret C T dX10_way_76 rfl (Nat.le_refl _) (Nat.le_refl _) ⟨_, rfl, ?_⟩
          rw [if_pos (by omega), if_pos (by omega)]
          exact ⟨rfl, _, _, rfl, hC1, hfr⟩
        · have c4 : ¬ (_) := fun z => c4 (((lg_cmp_lt _ _).trans (pk_lLT (by omega) (by have := Wy_le σ.1 (q := pm σ.1) hC.2.1.1 x.toNat y.toNat; omega))).mpr z)
          refine am_bipush (q := 59) (v := iZ (-3)) C dX10_way_57 rfl rfl ?_
          refine am_iret C T dX10_way_59 rfl (Nat.le_refl _) (Nat.le_refl _) ⟨_, rfl, ?_⟩
          rw [if_pos (by omega), if_neg (by omega)]
          exact ⟨rfl, _, _, rfl, hC1, hfr⟩
      · refine am_iconst (q := 27) (v := iZ (-1)) C dX10_way_26 rfl rfl ?_
        refine am_iret C T dX10_way_27 rfl (Nat.le_refl _) (Nat.le_refl _) ⟨_, rfl, ?_⟩
        rw [if_neg (by omega)]
        exact ⟨rfl, _, _, rfl, hC, frC_refl⟩
def foldC (z : Int) (v : Option Nat) : Int64 := if z = 0 ∧ v = none then 0 else enC v
theorem none_iff {v : Option Nat} : enC v = -3 ↔ v = none := ⟨none_of, fun h => by rw [h]; rfl⟩
set_option maxRecDepth 4000 in
theorem sp_X10_fold {σ : SG} (hC : atC I J σ) {x y : Int} (hx : rg x) (hy : rg y) {z : Int} (hz : rg z) : am_S G mX10_fold 6 0 0 [.ref 0, .int (iZ z), .int (iZ x), .int (iZ y)] (215, kK, kR, I, J) (am_ql (fun v w' => v = (if (0 ≤ z ∧ z ≤ 3) ∧ 0 ≤ x ∧ x ≤ 30 ∧ 0 ≤ y ∧ y ≤ 30 then foldC z (Ff z.toNat σ.1 (fO z.toNat) 0 (pm σ.1) x.toNat y.toNat) else (-9223372036854775808)) ∧ ∃ (I' : Nat → Nat → Int32) (J' : Nat → Nat → Int64), w' = (215, kK, kR, I', J') ∧ atC I' J' (σ) ∧ frC I J I' J')) := by
  refine am_spec (plainFor_of_name (by decide +kernel)) (Nat.le_of_ble_eq_true rfl) (L := [some (.ref 0), some (.int (iZ z)), some (.int (iZ x)), some (.int (iZ y)), none, none]) rfl (fun X C T => ?_)
  refine am_iload_n (q := 1) C dX10_fold_0 rfl rfl ?_
  refine am_ifZ_lt (q := 4) (tgt := 19) C dX10_fold_1 (by decide) rfl hz (fun c1 => ?_) (fun c1 => ?_)
  · refine am_ldc2 (q := 22) C dX10_fold_19 rfl ck_X10_168 ?_
    refine am_lret C T dX10_fold_22 rfl (Nat.le_refl _) (Nat.le_refl _) ⟨_, rfl, ?_⟩
    rw [if_neg (by omega)]
    exact ⟨rfl, _, _, rfl, hC, frC_refl⟩
  · refine am_iload_n (q := 5) C dX10_fold_4 rfl rfl ?_
    refine am_iconst (q := 6) (v := iZ 3) C dX10_fold_5 rfl rfl ?_
    refine am_icmpZ_gt (q := 9) (tgt := 19) C dX10_fold_6 (by decide) rfl hz ⟨by omega, by omega⟩ (fun c2 => ?_) (fun c2 => ?_)
    · refine am_ldc2 (q := 22) C dX10_fold_19 rfl ck_X10_168 ?_
      refine am_lret C T dX10_fold_22 rfl (Nat.le_refl _) (Nat.le_refl _) ⟨_, rfl, ?_⟩
      rw [if_neg (by omega)]
      exact ⟨rfl, _, _, rfl, hC, frC_refl⟩
    · refine am_iload_n (q := 10) C dX10_fold_9 rfl rfl ?_
      refine am_iload_n (q := 11) C dX10_fold_10 rfl rfl ?_
      refine am_bipush (q := 13) (v := iZ 30) C dX10_fold_11 rfl rfl ?_
      refine am_callS (q := 16) (As := [.int (iZ x), .int (iZ y), .int (iZ 30)]) (rest := []) C mb_X10_isPoint st_X10_isPoint ml_X10_164 dX10_fold_13 rfl (sp_X10_isPoint (c := 30) hx hy ⟨by omega, by omega⟩) rfl rfl ⟨by decide, by decide⟩ ⟨Nat.le_refl _, Nat.le_refl _⟩ (Nat.le_of_ble_eq_true rfl) (am_rie ?_)
      refine am_ifB_ne (q := 19) (tgt := 23) C dX10_fold_16 (by decide) rfl (fun c3 => ?_) (fun c3 => ?_)
      · have hz2 := hz.2
        rw [show iZ x = iZ (x.toNat : Int) from congrArg iZ (by omega), show iZ y = iZ (y.toNat : Int) from congrArg iZ (by omega), show iZ z = iZ (z.toNat : Int) from congrArg iZ (by omega)]
        refine am_aload_n (q := 24) C dX10_fold_23 rfl rfl ?_
        refine am_getR (q := 27) C fb_X10_66 dX10_fold_24 rfl rfl kk_0 (show 0 < 215 by decide) kr_0_8 ?_
        refine am_iload_n (q := 28) C dX10_fold_27 rfl rfl ?_
        refine am_iload_n (q := 29) C dX10_fold_28 rfl rfl ?_
        refine am_iload_n (q := 30) C dX10_fold_29 rfl rfl ?_
        refine am_aload_n (q := 31) C dX10_fold_30 rfl rfl ?_
        refine am_getR (q := 34) C fb_X10_14 dX10_fold_31 rfl rfl kk_0 (show 0 < 215 by decide) kr_0_0 ?_
        refine am_callN (q := 37) (As := [.int (iZ (z.toNat : Int)), .int (iZ (x.toNat : Int)), .int (iZ (y.toNat : Int)), .ref 1]) (rest := []) C mb_X2_folded im_X2_folded se_X2_folded mn_X10_193 cb_2 kk_178 (show 178 < 215 by decide) dX10_fold_34 rfl (sp_X2_folded hC.1 hC.2.1 (w := z.toNat) (x := x.toNat) (y := y.toNat) (by omega) (by omega) (by omega)) rfl rfl ⟨by decide, by decide⟩ ⟨Nat.le_refl _, Nat.le_refl _⟩ (Nat.le_of_ble_eq_true rfl) (am_rl (fun v' w' hw' => ?_))
        obtain ⟨rfl, J1, rfl, hJ1⟩ := hw'
        generalize Ff z.toNat σ.1 (fO z.toNat) 0 (pm σ.1) x.toNat y.toNat = vv at T ⊢
        have hC1 : atC I J1 σ := atC_fold hC hJ1
        have hfr : frC I J I J1 := fun q hq => ⟨rfl, hJ1 q (by omega)⟩
        refine am_lstore (q := 39) (L' := [some (.ref 0), some (.int (iZ (z.toNat : Int))), some (.int (iZ (x.toNat : Int))), some (.int (iZ (y.toNat : Int))), some (.long (enC vv)), none]) C dX10_fold_37 rfl (by decide) rfl rfl ?_
        refine am_iload_n (q := 40) C dX10_fold_39 rfl rfl ?_
        refine am_ifZ_ne (q := 43) (tgt := 56) C dX10_fold_40 (by decide) rfl ⟨by omega, by omega⟩ (fun c4 => ?_) (fun c4 => ?_)
        · refine am_lload (q := 58) C dX10_fold_56 rfl rfl ?_
          refine am_lret C T dX10_fold_58 rfl (Nat.le_refl _) (Nat.le_refl _) ⟨_, rfl, ?_⟩
          rw [if_pos (by omega)]
          refine ⟨?_, _, _, rfl, hC1, hfr⟩
          unfold foldC
          rw [if_neg]
          rintro ⟨e1, e2⟩
          first | omega | (exact absurd (none_iff.mpr e2) (by assumption))
        · refine am_lload (q := 45) C dX10_fold_43 rfl rfl ?_
          refine am_ldc2 (q := 48) C dX10_fold_45 rfl ck_X10_197 ?_
          refine am_lcmp (q := 49) C dX10_fold_48 rfl ?_
          refine am_if_ne (q := 52) (tgt := 56) C dX10_fold_49 (by decide) rfl (fun c5 => ?_) (fun c5 => ?_)
          · have c5 : ¬ (_) := fun z => c5 ((lg_cmp_eq (enC vv) (-3)).mpr z)
            refine am_lload (q := 58) C dX10_fold_56 rfl rfl ?_
            refine am_lret C T dX10_fold_58 rfl (Nat.le_refl _) (Nat.le_refl _) ⟨_, rfl, ?_⟩
            rw [if_pos (by omega)]
            refine ⟨?_, _, _, rfl, hC1, hfr⟩
            unfold foldC
            rw [if_neg]
            rintro ⟨e1, e2⟩
            first | omega | (exact absurd (none_iff.mpr e2) (by assumption))
          · have c5 := (lg_cmp_eq (enC vv) (-3)).mp c5
            refine am_lconst (q := 53) (v := lN 0) C dX10_fold_52 rfl rfl ?_
            refine am_goto (q := 58) C dX10_fold_53 (by decide) ?_
            refine am_lret C T dX10_fold_58 rfl (Nat.le_refl _) (Nat.le_refl _) ⟨_, rfl, ?_⟩
            rw [if_pos (by omega)]
            refine ⟨?_, _, _, rfl, hC1, hfr⟩
            unfold foldC
            rw [if_pos ⟨by omega, none_iff.mp (by assumption)⟩]; rfl
      · refine am_ldc2 (q := 22) C dX10_fold_19 rfl ck_X10_168 ?_
        refine am_lret C T dX10_fold_22 rfl (Nat.le_refl _) (Nat.le_refl _) ⟨_, rfl, ?_⟩
        rw [if_neg (by omega)]
        exact ⟨rfl, _, _, rfl, hC, frC_refl⟩
