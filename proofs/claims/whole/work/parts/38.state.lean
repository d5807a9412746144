variable {G : am_G} {I : Nat → Nat → Int32} {J : Nat → Nat → Int64}
/-- all that a VectorWays knows: parts; snapshots; what is kept; z; the tape; the sheets -/
abbrev RG : Type := (PT × Bool × Int32) × Int32 × (Nat × (Nat → Nat)) × ((Nat → Int) × (Nat → Nat) × (Nat → Nat → Int64))
abbrev SG : Type := PT × (Nat × (Nat → PT)) × RG
def atV (I : Nat → Nat → Int32) (J : Nat → Nat → Int64) (t : PT) : Prop := fanAt I t ∧ freeOK I J t ∧ waysOK I J t
def atX (I : Nat → Nat → Int32) (J : Nat → Nat → Int64) (g : RG) : Prop := I 0 11 = (if g.1.2.1 then 1 else 0) ∧ I 0 12 = g.1.2.2 ∧ I 0 13 = g.2.1 ∧ (g.1.2.1 = true → atP 6 I J g.1.1 ∧ okP g.1.1) ∧ atT I g.2.2.1.1 g.2.2.1.2 ∧ (∃ r, atR I J r) ∧ ∀ i, i < 4 → atS i I J (g.2.2.2.1 i) (g.2.2.2.2.1 i) (g.2.2.2.2.2 i)
def atC (I : Nat → Nat → Int32) (J : Nat → Nat → Int64) (σ : SG) : Prop := atP 1 I J σ.1 ∧ okP σ.1 ∧ atV I J σ.1 ∧ (∃ n, atU I J n σ.2.1.1 σ.2.1.2) ∧ atX I J σ.2.2
def frC (I : Nat → Nat → Int32) (J : Nat → Nat → Int64) (I' : Nat → Nat → Int32) (J' : Nat → Nat → Int64) : Prop := ∀ h, 191 ≤ h → I' h = I h ∧ J' h = J h
theorem frC_refl : frC I J I J := fun _ _ => ⟨rfl, rfl⟩
theorem atX.on {I I' : Nat → Nat → Int32} {J J' : Nat → Nat → Int64} {g : RG} (h : atX I J g) (hI : ∀ x, x = 0 ∨ (6 ≤ x ∧ x ≤ 10) ∨ (163 ≤ x ∧ x ≤ 168) ∨ (182 ≤ x ∧ x ≤ 190) → I' x = I x ∧ J' x = J x) : atX I' J' g := by
  obtain ⟨h1, h2, h3, h4, h5, ⟨r, h6⟩, h7⟩ := h
  refine ⟨by rw [(hI 0 (by omega)).1]; exact h1, by rw [(hI 0 (by omega)).1]; exact h2, by rw [(hI 0 (by omega)).1]; exact h3, fun e => ⟨(h4 e).1.on (fun a h8 h9 => (hI a (by omega)).1) (hI 10 (by omega)).2, (h4 e).2⟩, h5.on (by rw [(hI 163 (by omega)).1]) (hI 164 (by omega)).1, ⟨r, h6.on (hI 165 (by omega)).1 (hI 168 (by omega)).1 (hI 166 (by omega)).2 (hI 167 (by omega)).2⟩, fun i hi => (h7 i hi).on (hI (183 + 2 * i) (by omega)).1 (hI (184 + 2 * i) (by omega)).2⟩
theorem atV.on {I I' : Nat → Nat → Int32} {J J' : Nat → Nat → Int64} {t : PT} (h : atV I J t) (hI : ∀ x, 169 ≤ x → x ≤ 177 → I' x = I x ∧ J' x = J x) : atV I' J' t := ⟨h.1.on (fun x h1 h2 => (hI x h1 (by omega)).1), h.2.1.on (hI 174 (by omega) (by omega)).1 (hI 175 (by omega) (by omega)).2, h.2.2.on (hI 176 (by omega) (by omega)).1 (hI 177 (by omega) (by omega)).2⟩
/-- a snapshot is put ahead of the others -/
def pushU (t : PT) (u : Nat × (Nat → PT)) : Nat × (Nat → PT) := (if u.1 + 1 ≤ 30 then u.1 + 1 else 30, fun i => if i = 0 then t else u.2 (i - 1))
set_option maxRecDepth 4000 in
theorem sp_X10_partsChanged {t : PT} (hA : atP 1 I J t) (hK : okP t) : am_S G mX10_partsChanged 5 0 0 [.ref 0] (215, kK, kR, I, J) (am_qv (fun w' => ∃ I' : Nat → Nat → Int32, w' = (215, kK, kR, I', J) ∧ atV I' J t ∧ ∀ x, x < 169 ∨ 177 < x → I' x = I x)) := by
  refine am_spec (plainFor_of_name (by decide +kernel)) (Nat.le_of_ble_eq_true rfl) (L := [some (.ref 0)]) rfl (fun X C T => ?_)
  refine am_aload_n (q := 1) C dX10_partsChanged_0 rfl rfl ?_
  refine am_getR (q := 4) C fb_X10_45 dX10_partsChanged_1 rfl rfl kk_0 (show 0 < 215 by decide) kr_0_5 ?_
  refine am_aload_n (q := 5) C dX10_partsChanged_4 rfl rfl ?_
  refine am_getR (q := 8) C fb_X10_14 dX10_partsChanged_5 rfl rfl kk_0 (show 0 < 215 by decide) kr_0_0 ?_
  refine am_callN (q := 11) (As := [.ref 1]) (rest := []) C mb_X1_spread im_X1_spread se_X1_spread mn_X10_321 cb_1 kk_169 (show 169 < 215 by decide) dX10_partsChanged_8 rfl (sp_X1_spread hA hK) rfl rfl ⟨by decide, by decide⟩ ⟨Nat.le_refl _, Nat.le_refl _⟩ (Nat.le_of_ble_eq_true rfl) (am_rv (fun w' hw' => ?_))
  obtain ⟨I1, rfl, hF1, hI1⟩ := hw'
  refine am_aload_n (q := 12) C dX10_partsChanged_11 rfl rfl ?_
  refine am_getR (q := 15) C fb_X10_52 dX10_partsChanged_12 rfl rfl kk_0 (show 0 < 215 by decide) kr_0_6 ?_
  refine am_callN (q := 18) (As := []) (rest := []) C mb_X4_forget im_X4_forget se_X4_forget mn_X10_324 cb_4 kk_174 (show 174 < 215 by decide) dX10_partsChanged_15 rfl sp_X4_forget rfl rfl ⟨by decide, by decide⟩ ⟨Nat.le_refl _, Nat.le_refl _⟩ (Nat.le_of_ble_eq_true rfl) (am_rve ?_)
  refine am_aload_n (q := 19) C dX10_partsChanged_18 rfl rfl ?_
  refine am_getR (q := 22) C fb_X10_59 dX10_partsChanged_19 rfl rfl kk_0 (show 0 < 215 by decide) kr_0_7 ?_
  refine am_callN (q := 25) (As := []) (rest := []) C mb_X9_forget im_X9_forget se_X9_forget mn_X10_325 cb_9 kk_176 (show 176 < 215 by decide) dX10_partsChanged_22 rfl sp_X9_forget rfl rfl ⟨by decide, by decide⟩ ⟨Nat.le_refl _, Nat.le_refl _⟩ (Nat.le_of_ble_eq_true rfl) (am_rve ?_)
  refine am_vret C T dX10_partsChanged_25 rfl (Nat.le_refl _) (Nat.le_refl _) ⟨rfl, ?_⟩
  refine ⟨_, rfl, ⟨hF1.on (fun x h1 h2 => by rw [am_up_row _ _ _ _ (by omega), am_up_row _ _ _ _ (by omega), am_up_row _ _ _ _ (by omega), am_up_row _ _ _ _ (by omega)]), ⟨-1, -1, ⟨?_, ?_, by omega, by omega, by omega, by omega⟩, fun x y hx hy => by omega⟩, ⟨-1, -1, ⟨?_, ?_, by omega, by omega, by omega, by omega⟩, fun l x y h1 h2 hx hy => by omega⟩⟩, fun x hx => by rw [am_up_row _ _ _ _ (by omega), am_up_row _ _ _ _ (by omega), am_up_row _ _ _ _ (by omega), am_up_row _ _ _ _ (by omega)]; exact hI1 x (by omega)⟩
  · simp [am_up]
  · simp [am_up]
  · simp [am_up]
  · simp [am_up]
set_option maxRecDepth 4000 in
theorem sp_X10_isStep {a b : Int} (ha : rg a) (hb : rg b) : am_S G mX10_isStep 1 0 0 [.int (iZ a), .int (iZ b)] (215, kK, kR, I, J) (am_fi (if 0 ≤ a ∧ a ≤ 4 ∧ 0 ≤ b ∧ b ≤ 4 ∧ (0 < a ∨ 0 < b) then 1 else 0) (215, kK, kR, I, J)) := by
  refine am_spec (plainFor_of_name (by decide +kernel)) (Nat.le_of_ble_eq_true rfl) (L := [some (.int (iZ a)), some (.int (iZ b))]) rfl (fun X C T => ?_)
  refine am_iload_n (q := 1) C dX10_isStep_0 rfl rfl ?_
  refine am_ifZ_lt (q := 4) (tgt := 30) C dX10_isStep_1 (by decide) rfl ha (fun c1 => ?_) (fun c1 => ?_)
  · refine am_iconst (q := 31) (v := iZ 0) C dX10_isStep_30 rfl rfl ?_
    refine am_zretB (b := false) C T dX10_isStep_31 rfl (Nat.le_refl _) (Nat.le_refl _) rfl ⟨_, rfl, ?_⟩
    refine ⟨?_, rfl⟩
    first | (rw [if_neg (by omega)]; rfl) | (rw [if_pos (by omega)]; rfl)
  · refine am_iload_n (q := 5) C dX10_isStep_4 rfl rfl ?_
    refine am_iconst (q := 6) (v := iZ 4) C dX10_isStep_5 rfl rfl ?_
    refine am_icmpZ_gt (q := 9) (tgt := 30) C dX10_isStep_6 (by decide) rfl ha ⟨by omega, by omega⟩ (fun c2 => ?_) (fun c2 => ?_)
    · refine am_iconst (q := 31) (v := iZ 0) C dX10_isStep_30 rfl rfl ?_
      refine am_zretB (b := false) C T dX10_isStep_31 rfl (Nat.le_refl _) (Nat.le_refl _) rfl ⟨_, rfl, ?_⟩
      refine ⟨?_, rfl⟩
      first | (rw [if_neg (by omega)]; rfl) | (rw [if_pos (by omega)]; rfl)
    · refine am_iload_n (q := 10) C dX10_isStep_9 rfl rfl ?_
      refine am_ifZ_lt (q := 13) (tgt := 30) C dX10_isStep_10 (by decide) rfl hb (fun c3 => ?_) (fun c3 => ?_)
      · refine am_iconst (q := 31) (v := iZ 0) C dX10_isStep_30 rfl rfl ?_
        refine am_zretB (b := false) C T dX10_isStep_31 rfl (Nat.le_refl _) (Nat.le_refl _) rfl ⟨_, rfl, ?_⟩
        refine ⟨?_, rfl⟩
        first | (rw [if_neg (by omega)]; rfl) | (rw [if_pos (by omega)]; rfl)
      · refine am_iload_n (q := 14) C dX10_isStep_13 rfl rfl ?_
        refine am_iconst (q := 15) (v := iZ 4) C dX10_isStep_14 rfl rfl ?_
        refine am_icmpZ_gt (q := 18) (tgt := 30) C dX10_isStep_15 (by decide) rfl hb ⟨by omega, by omega⟩ (fun c4 => ?_) (fun c4 => ?_)
        · refine am_iconst (q := 31) (v := iZ 0) C dX10_isStep_30 rfl rfl ?_
          refine am_zretB (b := false) C T dX10_isStep_31 rfl (Nat.le_refl _) (Nat.le_refl _) rfl ⟨_, rfl, ?_⟩
          refine ⟨?_, rfl⟩
          first | (rw [if_neg (by omega)]; rfl) | (rw [if_pos (by omega)]; rfl)
        · refine am_iload_n (q := 19) C dX10_isStep_18 rfl rfl ?_
          refine am_ifZ_gt (q := 22) (tgt := 26) C dX10_isStep_19 (by decide) rfl ha (fun c5 => ?_) (fun c5 => ?_)
          · refine am_iconst (q := 27) (v := iZ 1) C dX10_isStep_26 rfl rfl ?_
            refine am_goto (q := 31) C dX10_isStep_27 (by decide) ?_
            refine am_zretB (b := true) C T dX10_isStep_31 rfl (Nat.le_refl _) (Nat.le_refl _) rfl ⟨_, rfl, ?_⟩
            refine ⟨?_, rfl⟩
            first | (rw [if_neg (by omega)]; rfl) | (rw [if_pos (by omega)]; rfl)
          · refine am_iload_n (q := 23) C dX10_isStep_22 rfl rfl ?_
            refine am_ifZ_le (q := 26) (tgt := 30) C dX10_isStep_23 (by decide) rfl hb (fun c6 => ?_) (fun c6 => ?_)
            · refine am_iconst (q := 31) (v := iZ 0) C dX10_isStep_30 rfl rfl ?_
              refine am_zretB (b := false) C T dX10_isStep_31 rfl (Nat.le_refl _) (Nat.le_refl _) rfl ⟨_, rfl, ?_⟩
              refine ⟨?_, rfl⟩
              first | (rw [if_neg (by omega)]; rfl) | (rw [if_pos (by omega)]; rfl)
            · refine am_iconst (q := 27) (v := iZ 1) C dX10_isStep_26 rfl rfl ?_
              refine am_goto (q := 31) C dX10_isStep_27 (by decide) ?_
              refine am_zretB (b := true) C T dX10_isStep_31 rfl (Nat.le_refl _) (Nat.le_refl _) rfl ⟨_, rfl, ?_⟩
              refine ⟨?_, rfl⟩
              first | (rw [if_neg (by omega)]; rfl) | (rw [if_pos (by omega)]; rfl)
set_option maxRecDepth 4000 in
theorem sp_X10_isPoint {x y c : Int} (hx : rg x) (hy : rg y) (hc : rg c) : am_S G mX10_isPoint 1 0 0 [.int (iZ x), .int (iZ y), .int (iZ c)] (215, kK, kR, I, J) (am_fi (if 0 ≤ x ∧ x ≤ c ∧ 0 ≤ y ∧ y ≤ c then 1 else 0) (215, kK, kR, I, J)) := by
  refine am_spec (plainFor_of_name (by decide +kernel)) (Nat.le_of_ble_eq_true rfl) (L := [some (.int (iZ x)), some (.int (iZ y)), some (.int (iZ c))]) rfl (fun X C T => ?_)
  refine am_iload_n (q := 1) C dX10_isPoint_0 rfl rfl ?_
  refine am_ifZ_lt (q := 4) (tgt := 22) C dX10_isPoint_1 (by decide) rfl hx (fun c1 => ?_) (fun c1 => ?_)
  · refine am_iconst (q := 23) (v := iZ 0) C dX10_isPoint_22 rfl rfl ?_
    refine am_zretB (b := false) C T dX10_isPoint_23 rfl (Nat.le_refl _) (Nat.le_refl _) rfl ⟨_, rfl, ?_⟩
    refine ⟨?_, rfl⟩
    first | (rw [if_neg (by omega)]; rfl) | (rw [if_pos (by omega)]; rfl)
  · refine am_iload_n (q := 5) C dX10_isPoint_4 rfl rfl ?_
    refine am_iload_n (q := 6) C dX10_isPoint_5 rfl rfl ?_
    refine am_icmpZ_gt (q := 9) (tgt := 22) C dX10_isPoint_6 (by decide) rfl hx hc (fun c2 => ?_) (fun c2 => ?_)
    · refine am_iconst (q := 23) (v := iZ 0) C dX10_isPoint_22 rfl rfl ?_
      refine am_zretB (b := false) C T dX10_isPoint_23 rfl (Nat.le_refl _) (Nat.le_refl _) rfl ⟨_, rfl, ?_⟩
      refine ⟨?_, rfl⟩
      first | (rw [if_neg (by omega)]; rfl) | (rw [if_pos (by omega)]; rfl)
    · refine am_iload_n (q := 10) C dX10_isPoint_9 rfl rfl ?_
      refine am_ifZ_lt (q := 13) (tgt := 22) C dX10_isPoint_10 (by decide) rfl hy (fun c3 => ?_) (fun c3 => ?_)
      · refine am_iconst (q := 23) (v := iZ 0) C dX10_isPoint_22 rfl rfl ?_
        refine am_zretB (b := false) C T dX10_isPoint_23 rfl (Nat.le_refl _) (Nat.le_refl _) rfl ⟨_, rfl, ?_⟩
        refine ⟨?_, rfl⟩
        first | (rw [if_neg (by omega)]; rfl) | (rw [if_pos (by omega)]; rfl)
      · refine am_iload_n (q := 14) C dX10_isPoint_13 rfl rfl ?_
        refine am_iload_n (q := 15) C dX10_isPoint_14 rfl rfl ?_
        refine am_icmpZ_gt (q := 18) (tgt := 22) C dX10_isPoint_15 (by decide) rfl hy hc (fun c4 => ?_) (fun c4 => ?_)
        · refine am_iconst (q := 23) (v := iZ 0) C dX10_isPoint_22 rfl rfl ?_
          refine am_zretB (b := false) C T dX10_isPoint_23 rfl (Nat.le_refl _) (Nat.le_refl _) rfl ⟨_, rfl, ?_⟩
          refine ⟨?_, rfl⟩
          first | (rw [if_neg (by omega)]; rfl) | (rw [if_pos (by omega)]; rfl)
        · refine am_iconst (q := 19) (v := iZ 1) C dX10_isPoint_18 rfl rfl ?_
          refine am_goto (q := 23) C dX10_isPoint_19 (by decide) ?_
          refine am_zretB (b := true) C T dX10_isPoint_23 rfl (Nat.le_refl _) (Nat.le_refl _) rfl ⟨_, rfl, ?_⟩
          refine ⟨?_, rfl⟩
          first | (rw [if_neg (by omega)]; rfl) | (rw [if_pos (by omega)]; rfl)
set_option maxRecDepth 4000 in
theorem sp_X10_isSpot {x y : Int} (hx : rg x) (hy : rg y) : am_S G mX10_isSpot 1 0 0 [.int (iZ x), .int (iZ y)] (215, kK, kR, I, J) (am_fi (if -60 ≤ x ∧ x ≤ 60 ∧ -60 ≤ y ∧ y ≤ 60 then 1 else 0) (215, kK, kR, I, J)) := by
  refine am_spec (plainFor_of_name (by decide +kernel)) (Nat.le_of_ble_eq_true rfl) (L := [some (.int (iZ x)), some (.int (iZ y))]) rfl (fun X C T => ?_)
  refine am_iload_n (q := 1) C dX10_isSpot_0 rfl rfl ?_
  refine am_bipush (q := 3) (v := iZ (-60)) C dX10_isSpot_1 rfl rfl ?_
  refine am_icmpZ_lt (q := 6) (tgt := 28) C dX10_isSpot_3 (by decide) rfl hx ⟨by omega, by omega⟩ (fun c1 => ?_) (fun c1 => ?_)
  · refine am_iconst (q := 29) (v := iZ 0) C dX10_isSpot_28 rfl rfl ?_
    refine am_zretB (b := false) C T dX10_isSpot_29 rfl (Nat.le_refl _) (Nat.le_refl _) rfl ⟨_, rfl, ?_⟩
    refine ⟨?_, rfl⟩
    first | (rw [if_neg (by omega)]; rfl) | (rw [if_pos (by omega)]; rfl)
  · refine am_iload_n (q := 7) C dX10_isSpot_6 rfl rfl ?_
    refine am_bipush (q := 9) (v := iZ 60) C dX10_isSpot_7 rfl rfl ?_
    refine am_icmpZ_gt (q := 12) (tgt := 28) C dX10_isSpot_9 (by decide) rfl hx ⟨by omega, by omega⟩ (fun c2 => ?_) (fun c2 => ?_)
    · refine am_iconst (q := 29) (v := iZ 0) C dX10_isSpot_28 rfl rfl ?_
      refine am_zretB (b := false) C T dX10_isSpot_29 rfl (Nat.le_refl _) (Nat.le_refl _) rfl ⟨_, rfl, ?_⟩
      refine ⟨?_, rfl⟩
      first | (rw [if_neg (by omega)]; rfl) | (rw [if_pos (by omega)]; rfl)
    · refine am_iload_n (q := 13) C dX10_isSpot_12 rfl rfl ?_
      refine am_bipush (q := 15) (v := iZ (-60)) C dX10_isSpot_13 rfl rfl ?_
      refine am_icmpZ_lt (q := 18) (tgt := 28) C dX10_isSpot_15 (by decide) rfl hy ⟨by omega, by omega⟩ (fun c3 => ?_) (fun c3 => ?_)
      · refine am_iconst (q := 29) (v := iZ 0) C dX10_isSpot_28 rfl rfl ?_
        refine am_zretB (b := false) C T dX10_isSpot_29 rfl (Nat.le_refl _) (Nat.le_refl _) rfl ⟨_, rfl, ?_⟩
        refine ⟨?_, rfl⟩
        first | (rw [if_neg (by omega)]; rfl) | (rw [if_pos (by omega)]; rfl)
      · refine am_iload_n (q := 19) C dX10_isSpot_18 rfl rfl ?_
        refine am_bipush (q := 21) (v := iZ 60) C dX10_isSpot_19 rfl rfl ?_
        refine am_icmpZ_gt (q := 24) (tgt := 28) C dX10_isSpot_21 (by decide) rfl hy ⟨by omega, by omega⟩ (fun c4 => ?_) (fun c4 => ?_)
        · refine am_iconst (q := 29) (v := iZ 0) C dX10_isSpot_28 rfl rfl ?_
          refine am_zretB (b := false) C T dX10_isSpot_29 rfl (Nat.le_refl _) (Nat.le_refl _) rfl ⟨_, rfl, ?_⟩
          refine ⟨?_, rfl⟩
          first | (rw [if_neg (by omega)]; rfl) | (rw [if_pos (by omega)]; rfl)
        · refine am_iconst (q := 25) (v := iZ 1) C dX10_isSpot_24 rfl rfl ?_
          refine am_goto (q := 29) C dX10_isSpot_25 (by decide) ?_
          refine am_zretB (b := true) C T dX10_isSpot_29 rfl (Nat.le_refl _) (Nat.le_refl _) rfl ⟨_, rfl, ?_⟩
          refine ⟨?_, rfl⟩
          first | (rw [if_neg (by omega)]; rfl) | (rw [if_pos (by omega)]; rfl)
set_option maxRecDepth 4000 in
theorem sp_X10_comes {σ : SG} (hC : atC I J σ) {a b : Nat} (ha : a ≤ 4) (hb : b ≤ 4) (hab : 1 ≤ a + b) : am_S G mX10_comes 6 0 0 [.ref 0, .int (iZ (a : Int)), .int (iZ (b : Int))] (215, kK, kR, I, J) (am_qi (fun v w' => v = (if 6 ≤ pm σ.1 then iZ (-2) else iZ (pm σ.1 : Int)) ∧ ∃ (I' : Nat → Nat → Int32) (J' : Nat → Nat → Int64), w' = (215, kK, kR, I', J') ∧ atC I' J' (if 6 ≤ pm σ.1 then σ else (addP σ.1 a b, pushU σ.1 σ.2.1, σ.2.2)) ∧ frC I J I' J')) := by
  obtain ⟨n0, hU⟩ := hC.2.2.2.1
  have hm := hC.2.1.1
  refine am_spec (plainFor_of_name (by decide +kernel)) (Nat.le_of_ble_eq_true rfl) (L := [some (.ref 0), some (.int (iZ (a : Int))), some (.int (iZ (b : Int)))]) rfl (fun X C T => ?_)
  refine am_aload_n (q := 1) C dX10_comes_0 rfl rfl ?_
  refine am_getR (q := 4) C fb_X10_14 dX10_comes_1 rfl rfl kk_0 (show 0 < 215 by decide) kr_0_0 ?_
  refine am_getIe (q := 7) (v := (iZ (pm σ.1 : Int))) C fb_X10_103 dX10_comes_4 rfl rfl kk_1 (show 1 < 215 by decide) hC.1.1 ?_
  refine am_bipush (q := 9) (v := iZ 6) C dX10_comes_7 rfl rfl ?_
  refine am_icmpZ_lt (q := 12) (tgt := 15) C dX10_comes_9 (by decide) rfl ⟨by omega, by omega⟩ ⟨by omega, by omega⟩ (fun c1 => ?_) (fun c1 => ?_)
  · refine am_aload_n (q := 16) C dX10_comes_15 rfl rfl ?_
    refine am_getR (q := 19) C fb_X10_24 dX10_comes_16 rfl rfl kk_0 (show 0 < 215 by decide) kr_0_2 ?_
    refine am_aload_n (q := 20) C dX10_comes_19 rfl rfl ?_
    refine am_getR (q := 23) C fb_X10_14 dX10_comes_20 rfl rfl kk_0 (show 0 < 215 by decide) kr_0_0 ?_
    refine am_callN (q := 26) (As := [.ref 1]) (rest := []) C mb_X0_remember im_X0_remember se_X0_remember mn_X10_106 cb_0 kk_11 (show 11 < 215 by decide) dX10_comes_23 rfl (sp_X0_remember hU hC.1 hC.2.1) rfl rfl ⟨by decide, by decide⟩ ⟨Nat.le_refl _, Nat.le_refl _⟩ (Nat.le_of_ble_eq_true rfl) (am_rv (fun w' hw' => ?_))
    obtain ⟨I1, J1, rfl, hU1, hf1⟩ := hw'
    have hA1 : atP 1 I1 J1 σ.1 := hC.1.on (fun x _ h => (hf1 x (by omega)).1) (hf1 5 (by omega)).2
    refine am_aload_n (q := 27) C dX10_comes_26 rfl rfl ?_
    refine am_getR (q := 30) C fb_X10_14 dX10_comes_27 rfl rfl kk_0 (show 0 < 215 by decide) kr_0_0 ?_
    refine am_iload_n (q := 31) C dX10_comes_30 rfl rfl ?_
    refine am_iload_n (q := 32) C dX10_comes_31 rfl rfl ?_
    refine am_callN (q := 35) (As := [.int (iZ (a : Int)), .int (iZ (b : Int))]) (rest := []) C mb_X5_add im_X5_add se_X5_add mn_X10_318 cb_5 kk_1 (show 1 < 215 by decide) dX10_comes_32 rfl (sp_X5_add isP_1 hA1 hC.2.1 (a := a) (b := b) (by omega)) rfl rfl ⟨by decide, by decide⟩ ⟨Nat.le_refl _, Nat.le_refl _⟩ (Nat.le_of_ble_eq_true rfl) (am_rv (fun w' hw' => ?_))
    obtain ⟨I2, J2, rfl, hA2, hf2⟩ := hw'
    refine am_aload_n (q := 36) C dX10_comes_35 rfl rfl ?_
    refine am_callV (q := 39) (As := []) (rest := []) C mb_X10_partsChanged im_X10_partsChanged se_X10_partsChanged ml_X10_110 cb_10 kk_0 (show 0 < 215 by decide) dX10_comes_36 rfl (sp_X10_partsChanged hA2 (okP_add hC.2.1 (by omega) ha hb hab)) rfl rfl ⟨by decide, by decide⟩ ⟨Nat.le_refl _, Nat.le_refl _⟩ (Nat.le_of_ble_eq_true rfl) (am_rv (fun w' hw' => ?_))
    obtain ⟨I3, rfl, hV3, hf3⟩ := hw'
    have hA3 : atP 1 I3 J2 (addP σ.1 a b) := hA2.on (fun x _ h => hf3 x (by omega)) rfl
    refine am_aload_n (q := 40) C dX10_comes_39 rfl rfl ?_
    refine am_getR (q := 43) C fb_X10_14 dX10_comes_40 rfl rfl kk_0 (show 0 < 215 by decide) kr_0_0 ?_
    refine am_getIe (q := 46) (v := (iZ ((pm σ.1 + 1 : Nat) : Int))) C fb_X10_103 dX10_comes_43 rfl rfl kk_1 (show 1 < 215 by decide) hA3.1 ?_
    refine am_iconst (q := 47) (v := iZ 1) C dX10_comes_46 rfl rfl ?_
    refine am_isubZ (q := 48) C dX10_comes_47 rfl ?_
    refine am_iret C T dX10_comes_48 rfl (Nat.le_refl _) (Nat.le_refl _) ⟨_, rfl, ?_⟩
    rw [if_neg (by omega), if_neg (by omega)]
    refine ⟨congrArg iZ (by omega), _, _, rfl, ⟨hA3, okP_add hC.2.1 (by omega) ha hb hab, hV3, ⟨_, hU1.on (fun x h1 h2 => ⟨?_, ?_⟩)⟩, hC.2.2.2.2.on (fun x hx => ⟨?_, ?_⟩)⟩, fun x hx => ⟨?_, ?_⟩⟩
    · rw [hf3 x (by omega), (hf2 x (by omega)).1]
    · rw [(hf2 x (by omega)).2]
    · rw [hf3 x (by omega), (hf2 x (by omega)).1, (hf1 x (by omega)).1]
    · rw [(hf2 x (by omega)).2, (hf1 x (by omega)).2]
    · rw [hf3 x (by omega), (hf2 x (by omega)).1, (hf1 x (by omega)).1]
    · rw [(hf2 x (by omega)).2, (hf1 x (by omega)).2]
  · refine am_bipush (q := 14) (v := iZ (-2)) C dX10_comes_12 rfl rfl ?_
    refine am_iret C T dX10_comes_14 rfl (Nat.le_refl _) (Nat.le_refl _) ⟨_, rfl, ?_⟩
    rw [if_pos (by omega), if_pos (by omega)]
    exact ⟨rfl, _, _, rfl, hC, frC_refl⟩
