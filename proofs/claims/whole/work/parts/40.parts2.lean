variable {G : am_G} {I : Nat → Nat → Int32} {J : Nat → Nat → Int64}
def dropP (t : PT) : PT := (pm t - 1, t.2)
theorem okP_drop {t : PT} (h : okP t) : okP (dropP t) := ⟨by have := h.1; show pm t - 1 ≤ 6; omega, fun p hp => h.2 p (by have : p < pm t - 1 := hp; omega)⟩
theorem atP_drop {t : PT} (h : atP 1 I J t) {z : Int} (hz : z = ((pm t - 1 : Nat) : Int)) : atP 1 (am_up I 1 4 (iZ z)) J (dropP t) := ⟨by rw [am_up_eq, hz]; rfl, fun p hp => by rw [am_up_row _ _ _ _ (by decide), am_up_row _ _ _ _ (by decide), am_up_row _ _ _ _ (by decide)]; exact h.2 p (by have : p < pm t - 1 := hp; omega)⟩
set_option maxRecDepth 4000 in
theorem sp_X10_drop {σ : SG} (hC : atC I J σ) : am_S G mX10_drop 6 0 0 [.ref 0] (215, kK, kR, I, J) (am_qi (fun v w' => v = iZ (if 1 ≤ pm σ.1 then ((pm σ.1 - 1 : Nat) : Int) else -3) ∧ ∃ (I' : Nat → Nat → Int32) (J' : Nat → Nat → Int64), w' = (215, kK, kR, I', J') ∧ atC I' J' (if 1 ≤ pm σ.1 then (dropP σ.1, pushU σ.1 σ.2.1, σ.2.2) else σ) ∧ frC I J I' J')) := by
  obtain ⟨n0, hU⟩ := hC.2.2.2.1
  have hm := hC.2.1.1
  refine am_spec (plainFor_of_name (by decide +kernel)) (Nat.le_of_ble_eq_true rfl) (L := [some (.ref 0)]) rfl (fun X C T => ?_)
  refine am_aload_n (q := 1) C dX10_drop_0 rfl rfl ?_
  refine am_getR (q := 4) C fb_X10_14 dX10_drop_1 rfl rfl kk_0 (show 0 < 215 by decide) kr_0_0 ?_
  refine am_getIe (q := 7) (v := (iZ (pm σ.1 : Int))) C fb_X10_103 dX10_drop_4 rfl rfl kk_1 (show 1 < 215 by decide) hC.1.1 ?_
  refine am_iconst (q := 8) (v := iZ 1) C dX10_drop_7 rfl rfl ?_
  refine am_icmpZ_ge (q := 11) (tgt := 14) C dX10_drop_8 (by decide) rfl ⟨by omega, by omega⟩ ⟨by omega, by omega⟩ (fun c1 => ?_) (fun c1 => ?_)
  · refine am_aload_n (q := 15) C dX10_drop_14 rfl rfl ?_
    refine am_getR (q := 18) C fb_X10_24 dX10_drop_15 rfl rfl kk_0 (show 0 < 215 by decide) kr_0_2 ?_
    refine am_aload_n (q := 19) C dX10_drop_18 rfl rfl ?_
    refine am_getR (q := 22) C fb_X10_14 dX10_drop_19 rfl rfl kk_0 (show 0 < 215 by decide) kr_0_0 ?_
    refine am_callN (q := 25) (As := [.ref 1]) (rest := []) C mb_X0_remember im_X0_remember se_X0_remember mn_X10_106 cb_0 kk_11 (show 11 < 215 by decide) dX10_drop_22 rfl (sp_X0_remember hU hC.1 hC.2.1) rfl rfl ⟨by decide, by decide⟩ ⟨Nat.le_refl _, Nat.le_refl _⟩ (Nat.le_of_ble_eq_true rfl) (am_rv (fun w' hw' => ?_))
    obtain ⟨I1, J1, rfl, hU1, hf1⟩ := hw'
    have hA1 : atP 1 I1 J1 σ.1 := hC.1.on (fun x _ h => (hf1 x (by omega)).1) (hf1 5 (by omega)).2
    refine am_aload_n (q := 26) C dX10_drop_25 rfl rfl ?_
    refine am_getR (q := 29) C fb_X10_14 dX10_drop_26 rfl rfl kk_0 (show 0 < 215 by decide) kr_0_0 ?_
    refine am_dup (q := 30) C dX10_drop_29 rfl rfl ?_
    refine am_getIe (q := 33) (v := (iZ (pm σ.1 : Int))) C fb_X10_103 dX10_drop_30 rfl rfl kk_1 (show 1 < 215 by decide) hA1.1 ?_
    refine am_iconst (q := 34) (v := iZ 1) C dX10_drop_33 rfl rfl ?_
    refine am_isubZ (q := 35) C dX10_drop_34 rfl ?_
    refine am_putI (q := 38) C fw_X10_103 dX10_drop_35 rfl rfl kk_1 (show 1 < 215 by decide) ?_
    refine am_aload_n (q := 39) C dX10_drop_38 rfl rfl ?_
    refine am_callV (q := 42) (As := []) (rest := []) C mb_X10_partsChanged im_X10_partsChanged se_X10_partsChanged ml_X10_110 cb_10 kk_0 (show 0 < 215 by decide) dX10_drop_39 rfl (sp_X10_partsChanged (atP_drop hA1 (by omega)) (okP_drop hC.2.1)) rfl rfl ⟨by decide, by decide⟩ ⟨Nat.le_refl _, Nat.le_refl _⟩ (Nat.le_of_ble_eq_true rfl) (am_rv (fun w' hw' => ?_))
    obtain ⟨I3, rfl, hV3, hf3⟩ := hw'
    have hA4 : atP 1 I3 J1 (dropP σ.1) := (atP_drop hA1 (show (pm σ.1 : Int) - 1 = _ by omega)).on (fun x _ h => hf3 x (by omega)) rfl
    refine am_aload_n (q := 43) C dX10_drop_42 rfl rfl ?_
    refine am_getR (q := 46) C fb_X10_14 dX10_drop_43 rfl rfl kk_0 (show 0 < 215 by decide) kr_0_0 ?_
    refine am_getIe (q := 49) (v := (iZ ((pm σ.1 - 1 : Nat) : Int))) C fb_X10_103 dX10_drop_46 rfl rfl kk_1 (show 1 < 215 by decide) hA4.1 ?_
    refine am_iret C T dX10_drop_49 rfl (Nat.le_refl _) (Nat.le_refl _) ⟨_, rfl, ?_⟩
    rw [if_pos (by omega), if_pos (by omega)]
    refine ⟨rfl, _, _, rfl, ⟨hA4, okP_drop hC.2.1, hV3, ⟨_, hU1.on (fun x h1 h2 => ⟨?_, rfl⟩)⟩, hC.2.2.2.2.on (fun x hx => ⟨?_, ?_⟩)⟩, fun x hx => ⟨?_, ?_⟩⟩
    · rw [hf3 x (by omega), am_up_row _ _ _ _ (by omega)]
    · rw [hf3 x (by omega), am_up_row _ _ _ _ (by omega), (hf1 x (by omega)).1]
    · rw [(hf1 x (by omega)).2]
    · rw [hf3 x (by omega), am_up_row _ _ _ _ (by omega), (hf1 x (by omega)).1]
    · rw [(hf1 x (by omega)).2]
  · refine am_bipush (q := 13) (v := iZ (-3)) C dX10_drop_11 rfl rfl ?_
    refine am_iret C T dX10_drop_13 rfl (Nat.le_refl _) (Nat.le_refl _) ⟨_, rfl, ?_⟩
    rw [if_neg (by omega), if_neg (by omega)]
    exact ⟨rfl, _, _, rfl, hC, frC_refl⟩
set_option maxRecDepth 4000 in
theorem sp_X10_undo {σ : SG} (hC : atC I J σ) : am_S G mX10_undo 6 0 0 [.ref 0] (215, kK, kR, I, J) (am_qi (fun v w' => v = iZ (if 1 ≤ σ.2.1.1 then ((σ.2.1.1 - 1 : Nat) : Int) else -3) ∧ ∃ (I' : Nat → Nat → Int32) (J' : Nat → Nat → Int64), w' = (215, kK, kR, I', J') ∧ atC I' J' (if 1 ≤ σ.2.1.1 then (σ.2.1.2 0, (σ.2.1.1 - 1, fun i => σ.2.1.2 (i + 1)), σ.2.2) else σ) ∧ frC I J I' J')) := by
  obtain ⟨n0, hU⟩ := hC.2.2.2.1
  have hm := hC.2.1.1
  refine am_spec (plainFor_of_name (by decide +kernel)) (Nat.le_of_ble_eq_true rfl) (L := [some (.ref 0)]) rfl (fun X C T => ?_)
  refine am_aload_n (q := 1) C dX10_undo_0 rfl rfl ?_
  refine am_getR (q := 4) C fb_X10_24 dX10_undo_1 rfl rfl kk_0 (show 0 < 215 by decide) kr_0_2 ?_
  refine am_aload_n (q := 5) C dX10_undo_4 rfl rfl ?_
  refine am_getR (q := 8) C fb_X10_14 dX10_undo_5 rfl rfl kk_0 (show 0 < 215 by decide) kr_0_0 ?_
  refine am_callN (q := 11) (As := [.ref 1]) (rest := []) C mb_X0_takeBack im_X0_takeBack se_X0_takeBack mn_X10_157 cb_0 kk_11 (show 11 < 215 by decide) dX10_undo_8 rfl (sp_X0_takeBack hU) rfl rfl ⟨by decide, by decide⟩ ⟨Nat.le_refl _, Nat.le_refl _⟩ (Nat.le_of_ble_eq_true rfl) (am_ri (fun v1 w1 hw1 => ?_))
  rcases hw1 with ⟨g1, rfl, rfl⟩ | ⟨g1, rfl, I1, J1, rfl, ⟨n1, hU1⟩, hA1, hf1⟩
  · refine am_intE (y := iZ 0) rfl ?_
    refine am_ifZ_ne (q := 14) (tgt := 17) C dX10_undo_11 (by decide) rfl ⟨by omega, by omega⟩ (fun c1 => ?_) (fun c1 => ?_)
    · exact absurd c1 (by decide)
    · refine am_bipush (q := 16) (v := iZ (-3)) C dX10_undo_14 rfl rfl ?_
      refine am_iret C T dX10_undo_16 rfl (Nat.le_refl _) (Nat.le_refl _) ⟨_, rfl, ?_⟩
      rw [if_neg (by omega), if_neg (by omega)]
      exact ⟨rfl, _, _, rfl, hC, frC_refl⟩
  · have hK1 := (hU.2.2.2.2 0 g1).2
    refine am_intE (y := iZ 1) rfl ?_
    refine am_ifZ_ne (q := 14) (tgt := 17) C dX10_undo_11 (by decide) rfl ⟨by omega, by omega⟩ (fun c2 => ?_) (fun c2 => ?_)
    · refine am_aload_n (q := 18) C dX10_undo_17 rfl rfl ?_
      refine am_callV (q := 21) (As := []) (rest := []) C mb_X10_partsChanged im_X10_partsChanged se_X10_partsChanged ml_X10_110 cb_10 kk_0 (show 0 < 215 by decide) dX10_undo_18 rfl (sp_X10_partsChanged hA1 hK1) rfl rfl ⟨by decide, by decide⟩ ⟨Nat.le_refl _, Nat.le_refl _⟩ (Nat.le_of_ble_eq_true rfl) (am_rv (fun w' hw' => ?_))
      obtain ⟨I3, rfl, hV3, hf3⟩ := hw'
      refine am_aload_n (q := 22) C dX10_undo_21 rfl rfl ?_
      refine am_getR (q := 25) C fb_X10_24 dX10_undo_22 rfl rfl kk_0 (show 0 < 215 by decide) kr_0_2 ?_
      refine am_getIe (q := 28) (v := (iZ ((σ.2.1.1 - 1 : Nat) : Int))) C fb_X10_161 dX10_undo_25 rfl rfl kk_11 (show 11 < 215 by decide) (by rw [hf3 11 (by decide)]; exact hU1.2.2.1) ?_
      refine am_iret C T dX10_undo_28 rfl (Nat.le_refl _) (Nat.le_refl _) ⟨_, rfl, ?_⟩
      rw [if_pos g1, if_pos g1]
      refine ⟨rfl, _, _, rfl, ⟨hA1.on (fun x _ h => hf3 x (by omega)) rfl, hK1, hV3, ⟨n1, hU1.on (fun x h1 h2 => ⟨hf3 x (by omega), rfl⟩)⟩, hC.2.2.2.2.on (fun x hx => ⟨?_, ?_⟩)⟩, fun x hx => ⟨?_, ?_⟩⟩
      · rw [hf3 x (by omega), (hf1 x (by omega) (by omega)).1]
      · rw [(hf1 x (by omega) (by omega)).2]
      · rw [hf3 x (by omega), (hf1 x (by omega) (by omega)).1]
      · rw [(hf1 x (by omega) (by omega)).2]
    · exact absurd c2 (by decide)
set_option maxRecDepth 4000 in
theorem sp_X10_lets {σ : SG} (hC : atC I J σ) {p k : Int} (hp : rg p) (hk : rg k) : am_S G mX10_lets 3 0 0 [.ref 0, .int (iZ p), .int (iZ k)] (215, kK, kR, I, J) (am_qi (fun v w' => v = iZ (if (0 ≤ p ∧ p < pm σ.1) ∧ 0 ≤ k ∧ k ≤ 60 then (bitOf (ps σ.1 p.toNat) k.toNat : Int) else -1) ∧ ∃ (I' : Nat → Nat → Int32) (J' : Nat → Nat → Int64), w' = (215, kK, kR, I', J') ∧ atC I' J' (σ) ∧ frC I J I' J')) := by
  obtain ⟨n0, hU⟩ := hC.2.2.2.1
  have hm := hC.2.1.1
  refine am_spec (plainFor_of_name (by decide +kernel)) (Nat.le_of_ble_eq_true rfl) (L := [some (.ref 0), some (.int (iZ p)), some (.int (iZ k))]) rfl (fun X C T => ?_)
  refine am_aload_n (q := 1) C dX10_lets_0 rfl rfl ?_
  refine am_getR (q := 4) C fb_X10_14 dX10_lets_1 rfl rfl kk_0 (show 0 < 215 by decide) kr_0_0 ?_
  refine am_iload_n (q := 5) C dX10_lets_4 rfl rfl ?_
  refine am_callN (q := 8) (As := [.int (iZ p)]) (rest := []) C mb_X5_has im_X5_has se_X5_has mn_X10_113 cb_5 kk_1 (show 1 < 215 by decide) dX10_lets_5 rfl (sp_X5_has isP_1 hC.1 hC.2.1 hp) rfl rfl ⟨by decide, by decide⟩ ⟨Nat.le_refl _, Nat.le_refl _⟩ (Nat.le_of_ble_eq_true rfl) (am_rie ?_)
  refine am_ifB_eq (q := 11) (tgt := 21) C dX10_lets_8 (by decide) rfl (fun c1 => ?_) (fun c1 => ?_)
  · refine am_iconst (q := 22) (v := iZ (-1)) C dX10_lets_21 rfl rfl ?_
    refine am_iret C T dX10_lets_22 rfl (Nat.le_refl _) (Nat.le_refl _) ⟨_, rfl, ?_⟩
    rw [if_neg (by omega)]
    exact ⟨rfl, _, _, rfl, hC, frC_refl⟩
  · refine am_iload_n (q := 12) C dX10_lets_11 rfl rfl ?_
    refine am_ifZ_lt (q := 15) (tgt := 21) C dX10_lets_12 (by decide) rfl hk (fun c2 => ?_) (fun c2 => ?_)
    · refine am_iconst (q := 22) (v := iZ (-1)) C dX10_lets_21 rfl rfl ?_
      refine am_iret C T dX10_lets_22 rfl (Nat.le_refl _) (Nat.le_refl _) ⟨_, rfl, ?_⟩
      rw [if_neg (by omega)]
      exact ⟨rfl, _, _, rfl, hC, frC_refl⟩
    · refine am_iload_n (q := 16) C dX10_lets_15 rfl rfl ?_
      refine am_bipush (q := 18) (v := iZ 60) C dX10_lets_16 rfl rfl ?_
      refine am_icmpZ_le (q := 21) (tgt := 23) C dX10_lets_18 (by decide) rfl hk ⟨by omega, by omega⟩ (fun c3 => ?_) (fun c3 => ?_)
      · refine am_aload_n (q := 24) C dX10_lets_23 rfl rfl ?_
        refine am_getR (q := 27) C fb_X10_14 dX10_lets_24 rfl rfl kk_0 (show 0 < 215 by decide) kr_0_0 ?_
        refine am_iload_n (q := 28) C dX10_lets_27 rfl rfl ?_
        refine am_iload_n (q := 29) C dX10_lets_28 rfl rfl ?_
        refine am_callN (q := 32) (As := [.int (iZ p), .int (iZ k)]) (rest := []) C mb_X5_allows im_X5_allows se_X5_allows mn_X10_154 cb_5 kk_1 (show 1 < 215 by decide) dX10_lets_29 rfl (sp_X5_allows isP_1 hC.1 hC.2.1 hp (k := k) (by omega)) rfl rfl ⟨by decide, by decide⟩ ⟨Nat.le_refl _, Nat.le_refl _⟩ (Nat.le_of_ble_eq_true rfl) (am_rie ?_)
        refine am_ifB_eq (q := 35) (tgt := 39) C dX10_lets_32 (by decide) rfl (fun c4 => ?_) (fun c4 => ?_)
        · refine am_iconst (q := 40) (v := iZ 0) C dX10_lets_39 rfl rfl ?_
          refine am_iret C T dX10_lets_40 rfl (Nat.le_refl _) (Nat.le_refl _) ⟨_, rfl, ?_⟩
          have hbit := bitOf_le (ps σ.1 p.toNat) k.toNat
          have h8 : ¬ alw σ.1 p k := by assumption
          have h9 : bitOf (ps σ.1 p.toNat) k.toNat = 0 := by
            have h7 : ¬ bitOf (ps σ.1 p.toNat) k.toNat = 1 := fun z => h8 ⟨by omega, by omega, z⟩
            omega
          rw [if_pos (by omega), h9]
          exact ⟨rfl, _, _, rfl, hC, frC_refl⟩
        · refine am_iconst (q := 36) (v := iZ 1) C dX10_lets_35 rfl rfl ?_
          refine am_goto (q := 40) C dX10_lets_36 (by decide) ?_
          refine am_iret C T dX10_lets_40 rfl (Nat.le_refl _) (Nat.le_refl _) ⟨_, rfl, ?_⟩
          have hbit := bitOf_le (ps σ.1 p.toNat) k.toNat
          have h9 : bitOf (ps σ.1 p.toNat) k.toNat = 1 := (show alw σ.1 p k by assumption).2.2
          rw [if_pos (by omega), h9]
          exact ⟨rfl, _, _, rfl, hC, frC_refl⟩
      · refine am_iconst (q := 22) (v := iZ (-1)) C dX10_lets_21 rfl rfl ?_
        refine am_iret C T dX10_lets_22 rfl (Nat.le_refl _) (Nat.le_refl _) ⟨_, rfl, ?_⟩
        rw [if_neg (by omega)]
        exact ⟨rfl, _, _, rfl, hC, frC_refl⟩
