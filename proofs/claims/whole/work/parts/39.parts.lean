variable {G : am_G} {I : Nat → Nat → Int32} {J : Nat → Nat → Int64}
def comesA (σ : SG) : Int := if 6 ≤ pm σ.1 then -2 else (pm σ.1 : Int)
def comesS (σ : SG) (a b : Nat) : SG := if 6 ≤ pm σ.1 then σ else (addP σ.1 a b, pushU σ.1 σ.2.1, σ.2.2)
theorem sp_comes {σ : SG} (hC : atC I J σ) {a b : Nat} (ha : a ≤ 4) (hb : b ≤ 4) (hab : 1 ≤ a + b) : am_S G mX10_comes 6 0 0 [.ref 0, .int (iZ (a : Int)), .int (iZ (b : Int))] (215, kK, kR, I, J) (am_qi (fun v w' => v = iZ (comesA σ) ∧ ∃ (I' : Nat → Nat → Int32) (J' : Nat → Nat → Int64), w' = (215, kK, kR, I', J') ∧ atC I' J' (comesS σ a b) ∧ frC I J I' J')) := by
  have h := sp_X10_comes (G := G) hC ha hb hab
  have e : (if 6 ≤ pm σ.1 then iZ (-2) else iZ (pm σ.1 : Int)) = iZ (comesA σ) := by unfold comesA; split <;> rfl
  rw [e] at h
  exact h
def stepP (a b : Int) : Prop := 0 ≤ a ∧ a ≤ 4 ∧ 0 ≤ b ∧ b ≤ 4 ∧ (0 < a ∨ 0 < b)
theorem comes_rg {σ : SG} (hK : okP σ.1) : -2 ≤ comesA σ ∧ comesA σ ≤ 5 := by have := hK.1; unfold comesA; split <;> omega
set_option maxRecDepth 4000 in
theorem sp_X10_part {σ : SG} (hC : atC I J σ) {a b : Int} (ra0 : rg a) (rb0 : rg b) : am_S G mX10_part 7 0 0 [.ref 0, .int (iZ a), .int (iZ b)] (215, kK, kR, I, J) (am_qi (fun v w' => v = iZ (if 0 ≤ a ∧ a ≤ 4 ∧ 0 ≤ b ∧ b ≤ 4 ∧ (0 < a ∨ 0 < b) then comesA σ else -1) ∧ ∃ (I' : Nat → Nat → Int32) (J' : Nat → Nat → Int64), w' = (215, kK, kR, I', J') ∧ atC I' J' (if 0 ≤ a ∧ a ≤ 4 ∧ 0 ≤ b ∧ b ≤ 4 ∧ (0 < a ∨ 0 < b) then comesS σ a.toNat b.toNat else σ) ∧ frC I J I' J')) := by
  refine am_spec (plainFor_of_name (by decide +kernel)) (Nat.le_of_ble_eq_true rfl) (L := [some (.ref 0), some (.int (iZ a)), some (.int (iZ b))]) rfl (fun X C T => ?_)
  refine am_iload_n (q := 1) C dX10_part_0 rfl rfl ?_
  refine am_iload_n (q := 2) C dX10_part_1 rfl rfl ?_
  refine am_callS (q := 5) (As := [.int (iZ a), .int (iZ b)]) (rest := []) C mb_X10_isStep st_X10_isStep ml_X10_95 dX10_part_2 rfl (sp_X10_isStep ra0 rb0) rfl rfl ⟨by decide, by decide⟩ ⟨Nat.le_refl _, Nat.le_refl _⟩ (Nat.le_of_ble_eq_true rfl) (am_rie ?_)
  refine am_ifB_ne (q := 8) (tgt := 10) C dX10_part_5 (by decide) rfl (fun c1 => ?_) (fun c1 => ?_)
  · refine am_aload_n (q := 11) C dX10_part_10 rfl rfl ?_
    refine am_iload_n (q := 12) C dX10_part_11 rfl rfl ?_
    refine am_iload_n (q := 13) C dX10_part_12 rfl rfl ?_
    obtain ⟨a1, rfl⟩ : ∃ q : Nat, a = q := ⟨a.toNat, by omega⟩
    obtain ⟨b1, rfl⟩ : ∃ q : Nat, b = q := ⟨b.toNat, by omega⟩
    refine am_callV (q := 16) (As := [.int (iZ (a1 : Int)), .int (iZ (b1 : Int))]) (rest := []) C mb_X10_comes im_X10_comes se_X10_comes ml_X10_99 cb_10 kk_0 (show 0 < 215 by decide) dX10_part_13 rfl (sp_comes hC (a := a1) (b := b1) (by omega) (by omega) (by omega)) rfl rfl ⟨by decide, by decide⟩ ⟨Nat.le_refl _, Nat.le_refl _⟩ (Nat.le_of_ble_eq_true rfl) (am_ri (fun v' w' hw' => ?_))
    obtain ⟨rfl, I1, J1, rfl, hC1, hf1⟩ := hw'
    refine am_iret C T dX10_part_16 rfl (Nat.le_refl _) (Nat.le_refl _) ⟨_, rfl, ?_⟩
    rw [if_pos (by omega), if_pos (by omega)]
    exact ⟨rfl, _, _, rfl, hC1, hf1⟩
  · refine am_iconst (q := 9) (v := iZ (-1)) C dX10_part_8 rfl rfl ?_
    refine am_iret C T dX10_part_9 rfl (Nat.le_refl _) (Nat.le_refl _) ⟨_, rfl, ?_⟩
    rw [if_neg (by omega), if_neg (by omega)]
    exact ⟨rfl, _, _, rfl, hC, frC_refl⟩
set_option maxRecDepth 4000 in
theorem sp_X10_arc {σ : SG} (hC : atC I J σ) {a b : Int} (ra0 : rg a) (rb0 : rg b) : am_S G mX10_arc 7 0 0 [.ref 0, .int (iZ a), .int (iZ b)] (215, kK, kR, I, J) (am_qi (fun v w' => v = iZ (if 0 ≤ a ∧ b ≤ 2 ∧ a < b then comesA σ else -1) ∧ ∃ (I' : Nat → Nat → Int32) (J' : Nat → Nat → Int64), w' = (215, kK, kR, I', J') ∧ atC I' J' (if 0 ≤ a ∧ b ≤ 2 ∧ a < b then comesS σ (if a = 0 then 1 else 0) (if b = 2 then 1 else 0) else σ) ∧ frC I J I' J')) := by
  refine am_spec (plainFor_of_name (by decide +kernel)) (Nat.le_of_ble_eq_true rfl) (L := [some (.ref 0), some (.int (iZ a)), some (.int (iZ b))]) rfl (fun X C T => ?_)
  refine am_iload_n (q := 1) C dX10_arc_0 rfl rfl ?_
  refine am_ifZ_lt (q := 4) (tgt := 14) C dX10_arc_1 (by decide) rfl ra0 (fun c1 => ?_) (fun c1 => ?_)
  · refine am_iconst (q := 15) (v := iZ (-1)) C dX10_arc_14 rfl rfl ?_
    refine am_iret C T dX10_arc_15 rfl (Nat.le_refl _) (Nat.le_refl _) ⟨_, rfl, ?_⟩
    rw [if_neg (by omega), if_neg (by omega)]
    exact ⟨rfl, _, _, rfl, hC, frC_refl⟩
  · refine am_iload_n (q := 5) C dX10_arc_4 rfl rfl ?_
    refine am_iconst (q := 6) (v := iZ 2) C dX10_arc_5 rfl rfl ?_
    refine am_icmpZ_gt (q := 9) (tgt := 14) C dX10_arc_6 (by decide) rfl rb0 ⟨by omega, by omega⟩ (fun c2 => ?_) (fun c2 => ?_)
    · refine am_iconst (q := 15) (v := iZ (-1)) C dX10_arc_14 rfl rfl ?_
      refine am_iret C T dX10_arc_15 rfl (Nat.le_refl _) (Nat.le_refl _) ⟨_, rfl, ?_⟩
      rw [if_neg (by omega), if_neg (by omega)]
      exact ⟨rfl, _, _, rfl, hC, frC_refl⟩
    · refine am_iload_n (q := 10) C dX10_arc_9 rfl rfl ?_
      refine am_iload_n (q := 11) C dX10_arc_10 rfl rfl ?_
      refine am_icmpZ_lt (q := 14) (tgt := 16) C dX10_arc_11 (by decide) rfl ra0 rb0 (fun c3 => ?_) (fun c3 => ?_)
      · refine am_aload_n (q := 17) C dX10_arc_16 rfl rfl ?_
        refine am_iload_n (q := 18) C dX10_arc_17 rfl rfl ?_
        refine am_ifZ_ne (q := 21) (tgt := 25) C dX10_arc_18 (by decide) rfl ra0 (fun c4 => ?_) (fun c4 => ?_)
        · refine am_iconst (q := 26) (v := iZ 0) C dX10_arc_25 rfl rfl ?_
          refine am_iload_n (q := 27) C dX10_arc_26 rfl rfl ?_
          refine am_iconst (q := 28) (v := iZ 2) C dX10_arc_27 rfl rfl ?_
          refine am_icmpZ_ne (q := 31) (tgt := 35) C dX10_arc_28 (by decide) rfl rb0 ⟨by omega, by omega⟩ (fun c5 => ?_) (fun c5 => ?_)
          · refine am_iconst (q := 36) (v := iZ 0) C dX10_arc_35 rfl rfl ?_
            exfalso; omega
          · refine am_iconst (q := 32) (v := iZ 1) C dX10_arc_31 rfl rfl ?_
            refine am_goto (q := 36) C dX10_arc_32 (by decide) ?_
            refine am_callV (q := 39) (As := [.int (iZ (0 : Int)), .int (iZ (1 : Int))]) (rest := []) C mb_X10_comes im_X10_comes se_X10_comes ml_X10_99 cb_10 kk_0 (show 0 < 215 by decide) dX10_arc_36 rfl (sp_comes hC (a := 0) (b := 1) (by omega) (by omega) (by omega)) rfl rfl ⟨by decide, by decide⟩ ⟨Nat.le_refl _, Nat.le_refl _⟩ (Nat.le_of_ble_eq_true rfl) (am_ri (fun v' w' hw' => ?_))
            obtain ⟨rfl, I1, J1, rfl, hC1, hf1⟩ := hw'
            refine am_iret C T dX10_arc_39 rfl (Nat.le_refl _) (Nat.le_refl _) ⟨_, rfl, ?_⟩
            rw [if_pos (by omega), if_pos (by omega)]
            first | (rw [if_pos (show a = 0 by omega)]) | (rw [if_neg (show ¬ a = 0 by omega)])
            first | (rw [if_pos (show b = 2 by omega)]) | (rw [if_neg (show ¬ b = 2 by omega)])
            exact ⟨rfl, _, _, rfl, hC1, hf1⟩
        · refine am_iconst (q := 22) (v := iZ 1) C dX10_arc_21 rfl rfl ?_
          refine am_goto (q := 26) C dX10_arc_22 (by decide) ?_
          refine am_iload_n (q := 27) C dX10_arc_26 rfl rfl ?_
          refine am_iconst (q := 28) (v := iZ 2) C dX10_arc_27 rfl rfl ?_
          refine am_icmpZ_ne (q := 31) (tgt := 35) C dX10_arc_28 (by decide) rfl rb0 ⟨by omega, by omega⟩ (fun c6 => ?_) (fun c6 => ?_)
          · refine am_iconst (q := 36) (v := iZ 0) C dX10_arc_35 rfl rfl ?_
            refine am_callV (q := 39) (As := [.int (iZ (1 : Int)), .int (iZ (0 : Int))]) (rest := []) C mb_X10_comes im_X10_comes se_X10_comes ml_X10_99 cb_10 kk_0 (show 0 < 215 by decide) dX10_arc_36 rfl (sp_comes hC (a := 1) (b := 0) (by omega) (by omega) (by omega)) rfl rfl ⟨by decide, by decide⟩ ⟨Nat.le_refl _, Nat.le_refl _⟩ (Nat.le_of_ble_eq_true rfl) (am_ri (fun v' w' hw' => ?_))
            obtain ⟨rfl, I1, J1, rfl, hC1, hf1⟩ := hw'
            refine am_iret C T dX10_arc_39 rfl (Nat.le_refl _) (Nat.le_refl _) ⟨_, rfl, ?_⟩
            rw [if_pos (by omega), if_pos (by omega)]
            first | (rw [if_pos (show a = 0 by omega)]) | (rw [if_neg (show ¬ a = 0 by omega)])
            first | (rw [if_pos (show b = 2 by omega)]) | (rw [if_neg (show ¬ b = 2 by omega)])
            exact ⟨rfl, _, _, rfl, hC1, hf1⟩
          · refine am_iconst (q := 32) (v := iZ 1) C dX10_arc_31 rfl rfl ?_
            refine am_goto (q := 36) C dX10_arc_32 (by decide) ?_
            refine am_callV (q := 39) (As := [.int (iZ (1 : Int)), .int (iZ (1 : Int))]) (rest := []) C mb_X10_comes im_X10_comes se_X10_comes ml_X10_99 cb_10 kk_0 (show 0 < 215 by decide) dX10_arc_36 rfl (sp_comes hC (a := 1) (b := 1) (by omega) (by omega) (by omega)) rfl rfl ⟨by decide, by decide⟩ ⟨Nat.le_refl _, Nat.le_refl _⟩ (Nat.le_of_ble_eq_true rfl) (am_ri (fun v' w' hw' => ?_))
            obtain ⟨rfl, I1, J1, rfl, hC1, hf1⟩ := hw'
            refine am_iret C T dX10_arc_39 rfl (Nat.le_refl _) (Nat.le_refl _) ⟨_, rfl, ?_⟩
            rw [if_pos (by omega), if_pos (by omega)]
            first | (rw [if_pos (show a = 0 by omega)]) | (rw [if_neg (show ¬ a = 0 by omega)])
            first | (rw [if_pos (show b = 2 by omega)]) | (rw [if_neg (show ¬ b = 2 by omega)])
            exact ⟨rfl, _, _, rfl, hC1, hf1⟩
      · refine am_iconst (q := 15) (v := iZ (-1)) C dX10_arc_14 rfl rfl ?_
        refine am_iret C T dX10_arc_15 rfl (Nat.le_refl _) (Nat.le_refl _) ⟨_, rfl, ?_⟩
        rw [if_neg (by omega), if_neg (by omega)]
        exact ⟨rfl, _, _, rfl, hC, frC_refl⟩
theorem atX_z {g : RG} (h : atX I J g) (z : Int32) : atX (am_up I 0 13 z) J (g.1, z, g.2.2) := by
  obtain ⟨h1, h2, h3, h4, h5, ⟨r, h6⟩, h7⟩ := h
  exact ⟨(am_up_ne _ _ _ _ (Or.inr (by decide))).trans h1, (am_up_ne _ _ _ _ (Or.inr (by decide))).trans h2, am_up_eq _ _ _ _, fun e => ⟨(h4 e).1.on (fun a h8 h9 => am_up_row _ _ _ _ (by omega)) rfl, (h4 e).2⟩, h5.on (by rw [am_up_row _ _ _ _ (by decide)]) (am_up_row _ _ _ _ (by decide)), ⟨r, h6.on (am_up_row _ _ _ _ (by decide)) (am_up_row _ _ _ _ (by decide)) rfl rfl⟩, fun i hi => (h7 i hi).on (am_up_row _ _ _ _ (by omega)) rfl⟩
theorem atC_0 {σ : SG} {I' : Nat → Nat → Int32} {J' : Nat → Nat → Int64} {g : RG} (h : atC I J σ) (hI : ∀ x, 1 ≤ x → x ≤ 190 → ¬ (6 ≤ x ∧ x ≤ 10) → ¬ (163 ≤ x ∧ x ≤ 168) → ¬ (182 ≤ x) → I' x = I x ∧ J' x = J x) (hX : atX I' J' g) : atC I' J' (σ.1, σ.2.1, g) := by
  obtain ⟨h1, h2, h3, ⟨n, h4⟩, h5⟩ := h
  exact ⟨h1.on (fun a h8 h9 => (hI a (by omega) (by omega) (by omega) (by omega) (by omega)).1) (hI 5 (by omega) (by omega) (by omega) (by omega) (by omega)).2, h2, h3.on (fun x h8 h9 => hI x (by omega) (by omega) (by omega) (by omega) (by omega)), ⟨n, h4.on (fun x h8 h9 => hI x (by omega) (by omega) (by omega) (by omega) (by omega))⟩, hX⟩
set_option maxRecDepth 4000 in
theorem sp_X10_seed {σ : SG} (hC : atC I J σ) {v : Int32} : am_S G mX10_seed 1 0 0 [.ref 0, .int v] (215, kK, kR, I, J) (am_qi (fun v1 w' => v1 = σ.2.2.2.1 ∧ ∃ (I' : Nat → Nat → Int32) (J' : Nat → Nat → Int64), w' = (215, kK, kR, I', J') ∧ atC I' J' (σ.1, σ.2.1, (σ.2.2.1, v, σ.2.2.2.2)) ∧ frC I J I' J')) := by
  refine am_spec (plainFor_of_name (by decide +kernel)) (Nat.le_of_ble_eq_true rfl) (L := [some (.ref 0), some (.int v), none]) rfl (fun X C T => ?_)
  refine am_aload_n (q := 1) C dX10_seed_0 rfl rfl ?_
  refine am_getIe (q := 4) (v := σ.2.2.2.1) C fb_X10_91 dX10_seed_1 rfl rfl kk_0 (show 0 < 215 by decide) hC.2.2.2.2.2.2.1 ?_
  refine am_istore_n (q := 5) (L' := [some (.ref 0), some (.int v), some (.int σ.2.2.2.1)]) C dX10_seed_4 rfl (by decide) rfl rfl ?_
  refine am_aload_n (q := 6) C dX10_seed_5 rfl rfl ?_
  refine am_iload_n (q := 7) C dX10_seed_6 rfl rfl ?_
  refine am_putI (q := 10) C fw_X10_91 dX10_seed_7 rfl rfl kk_0 (show 0 < 215 by decide) ?_
  refine am_iload_n (q := 11) C dX10_seed_10 rfl rfl ?_
  refine am_iret C T dX10_seed_11 rfl (Nat.le_refl _) (Nat.le_refl _) ⟨_, rfl, ?_⟩
  exact ⟨rfl, _, _, rfl, atC_0 hC (fun x h1 h2 _ _ _ => ⟨am_up_row _ _ _ _ (by omega), rfl⟩) (atX_z hC.2.2.2.2 v), fun x hx => ⟨am_up_row _ _ _ _ (by omega), rfl⟩⟩
