variable {G : am_G} {I : Nat → Nat → Int32} {J : Nat → Nat → Int64}
def rSt (st ts : Nat) (r : RS) : RS := (r.1, r.2.1, r.2.2.1, r.2.2.2.1, st, ts)
def rOp (o : Nat) (r : RS) : RS := (o, r.2.1, r.2.2.1, r.2.2.2.1, r.2.2.2.2.1, r.2.2.2.2.2)
def rNum (n : Int) (r : RS) : Bool × RS := if n < 0 ∨ (n = 0 ∧ r.2.2.2.2.2 = 2) then (false, r) else (true, rHold (setN (fun k => psR r.2.2.2.2.2 k n.toNat) 61) r)
def rTest (wd : Nat → Bool) (r : RS) : Bool × RS := if wd 3 then (true, rSt 1 0 r) else if wd 4 then (true, rSt 1 1 r) else if wd 5 then (true, rSt 1 2 r) else if wd 6 then (true, rSt 1 3 r) else (false, r)
def rBegn (wd : Nat → Bool) (r : RS) : Bool × RS := if wd 0 then (true, rDeny r) else if wd 1 then (true, rHold anyS r) else if wd 2 then (if 4 ≤ r.1 then (false, r) else (true, rBeg 0 (rOp (r.1 + 1) r))) else rTest wd r
def rJnt (wd : Nat → Bool) (r : RS) : Bool × RS := if wd 7 then (true, rSt 0 r.2.2.2.2.2 r) else if wd 8 then (true, rBeg (rSo r) r) else if wd 9 = false ∨ r.1 < 1 then (false, r) else (true, rHold (rSo r) (rOp (r.1 - 1) r))
def rTk (wd : Nat → Bool) (c : Nat) (n : Int) (r : RS) : Bool × RS := if r.2.2.2.2.1 = 1 then (if c = 2 then rNum n r else (false, r)) else if c = 2 then (false, r) else if r.2.2.2.2.1 = 0 then rBegn wd r else rJnt wd r
theorem atR_op {r : RS} (h : atR I J r) {o : Nat} (ho : o ≤ 4) : atR (am_up I 165 3 (iZ (o : Int))) J (rOp o r) := by
  obtain ⟨r1, r2, r3, r4, r5, r6, r7⟩ := h
  exact ⟨am_up_eq _ _ _ _, (am_up_ne _ _ _ _ (Or.inr (by decide))).trans r2, (am_up_ne _ _ _ _ (Or.inr (by decide))).trans r3, ho, r5, r6, r7⟩
theorem atR_st {r : RS} (h : atR I J r) {o : Nat} (ho : o ≤ 2) : atR (am_up I 165 4 (iZ (o : Int))) J (rSt o r.2.2.2.2.2 r) := by
  obtain ⟨r1, r2, r3, r4, r5, r6, r7⟩ := h
  exact ⟨(am_up_ne _ _ _ _ (Or.inr (by decide))).trans r1, am_up_eq _ _ _ _, (am_up_ne _ _ _ _ (Or.inr (by decide))).trans r3, r4, ho, r6, r7⟩
theorem atR_ts {r : RS} (h : atR I J r) {o : Nat} (ho : o ≤ 3) : atR (am_up I 165 5 (iZ (o : Int))) J (rSt r.2.2.2.2.1 o r) := by
  obtain ⟨r1, r2, r3, r4, r5, r6, r7⟩ := h
  exact ⟨(am_up_ne _ _ _ _ (Or.inr (by decide))).trans r1, (am_up_ne _ _ _ _ (Or.inr (by decide))).trans r2, am_up_eq _ _ _ _, r4, r5, ho, r7⟩
theorem rSo_lt {r : RS} (h : atR I J r) : rSo r < 2 ^ 61 := by
  obtain ⟨r1, r2, r3, r4, r5, r6, r7⟩ := h
  have := r7 r.1 (by omega)
  exact Nat.or_lt_two_pow this.2.1 this.2.2.2.1
/-- what of the cells stays -/
def frR (I : Nat → Nat → Int32) (J : Nat → Nat → Int64) (I' : Nat → Nat → Int32) (J' : Nat → Nat → Int64) : Prop := (∀ h, h ≠ 165 → h ≠ 168 → I' h = I h) ∧ (∀ k, k < 3 ∨ 5 < k → I' 165 k = I 165 k) ∧ ∀ h, h ≠ 166 → h ≠ 167 → J' h = J h
theorem frR_refl : frR I J I J := ⟨fun _ _ _ => rfl, fun _ _ => rfl, fun _ _ _ => rfl⟩
theorem frR_up {I' : Nat → Nat → Int32} {J' : Nat → Nat → Int64} {k : Nat} {v : Int32} (hk : 3 ≤ k ∧ k ≤ 5) (h : frR I J I' J') : frR I J (am_up I' 165 k v) J' := ⟨fun h0 h1 h2 => by rw [am_up_row _ _ _ _ h1]; exact h.1 h0 h1 h2, fun j hj => by rw [am_up_ne _ _ _ _ (Or.inr (by omega))]; exact h.2.1 j hj, h.2.2⟩
theorem frR_tr {I1 I2 : Nat → Nat → Int32} {J1 J2 : Nat → Nat → Int64} (h : frR I J I1 J1) (g : frR I1 J1 I2 J2) : frR I J I2 J2 := ⟨fun h0 h1 h2 => (g.1 h0 h1 h2).trans (h.1 h0 h1 h2), fun j hj => (g.2.1 j hj).trans (h.2.1 j hj), fun h0 h1 h2 => (g.2.2 h0 h1 h2).trans (h.2.2 h0 h1 h2)⟩
set_option maxRecDepth 4000 in
theorem sp_X6_takesNumber {r : RS} (hR : atR I J r) {z : Int} (hz : -1 ≤ z ∧ z ≤ 99) : am_S G mX6_takesNumber 3 0 0 [.ref 165, .int (iZ z)] (215, kK, kR, I, J) (am_qi (fun v w' => v = (if (rNum z r).1 = true then 1 else 0) ∧ ∃ (I' : Nat → Nat → Int32) (J' : Nat → Nat → Int64), w' = (215, kK, kR, I', J') ∧ atR I' J' (rNum z r).2 ∧ frR I J I' J')) := by
  have r1 := hR.1
  have r2 := hR.2.1
  have r3 := hR.2.2.1
  have r4 := hR.2.2.2.1
  have r5 := hR.2.2.2.2.1
  have r6 := hR.2.2.2.2.2.1
  refine am_spec (plainFor_of_name (by decide +kernel)) (Nat.le_of_ble_eq_true rfl) (L := [some (.ref 165), some (.int (iZ z))]) rfl (fun X C T => ?_)
  refine am_iload_n (q := 1) C dX6_takesNumber_0 rfl rfl ?_
  refine am_ifZ_lt (q := 4) (tgt := 16) C dX6_takesNumber_1 (by decide) rfl ⟨by omega, by omega⟩ (fun c1 => ?_) (fun c1 => ?_)
  · refine am_iconst (q := 17) (v := iZ 0) C dX6_takesNumber_16 rfl rfl ?_
    refine am_zretB (b := false) C T dX6_takesNumber_17 rfl (Nat.le_refl _) (Nat.le_refl _) rfl ⟨_, rfl, ?_⟩
    have ho : rNum z r = (false, r) := if_pos (by omega)
    rw [ho]
    exact ⟨rfl, _, _, rfl, hR, frR_refl⟩
  · refine am_iload_n (q := 5) C dX6_takesNumber_4 rfl rfl ?_
    refine am_ifZ_ne (q := 8) (tgt := 18) C dX6_takesNumber_5 (by decide) rfl ⟨by omega, by omega⟩ (fun c2 => ?_) (fun c2 => ?_)
    · refine am_aload_n (q := 19) C dX6_takesNumber_18 rfl rfl ?_
      refine am_aload_n (q := 20) C dX6_takesNumber_19 rfl rfl ?_
      refine am_iload_n (q := 21) C dX6_takesNumber_20 rfl rfl ?_
      rw [show z = ((z.toNat : Nat) : Int) by omega]
      refine am_callV (q := 24) (As := [.int (iZ (z.toNat : Int))]) (rest := [.ref 165]) C mb_X6_setOf im_X6_setOf se_X6_setOf ml_X6_107 cb_6 kk_165 (show 165 < 215 by decide) dX6_takesNumber_21 rfl (sp_X6_setOf hR (n := z.toNat) (by omega)) rfl rfl ⟨by decide, by decide⟩ ⟨Nat.le_refl _, Nat.le_refl _⟩ (Nat.le_of_ble_eq_true rfl) (am_rle ?_)
      refine am_longE (y := lN (setN (fun k => psR r.2.2.2.2.2 k z.toNat) 61)) (by simp) ?_
      refine am_callV (q := 27) (As := [.long (lN (setN (fun k => psR r.2.2.2.2.2 k z.toNat) 61))]) (rest := []) C mb_X6_hold im_X6_hold se_X6_hold ml_X6_91 cb_6 kk_165 (show 165 < 215 by decide) dX6_takesNumber_24 rfl (sp_X6_hold hR (s := setN (fun k => psR r.2.2.2.2.2 k z.toNat) 61) (setN_lt _ _)) rfl rfl ⟨by decide, by decide⟩ ⟨Nat.le_refl _, Nat.le_refl _⟩ (Nat.le_of_ble_eq_true rfl) (am_rv (fun w' hw' => ?_))
      obtain ⟨I1, J1, rfl, hA1, hf1⟩ := hw'
      refine am_iconst (q := 28) (v := iZ 1) C dX6_takesNumber_27 rfl rfl ?_
      refine am_zretB (b := true) C T dX6_takesNumber_28 rfl (Nat.le_refl _) (Nat.le_refl _) rfl ⟨_, rfl, ?_⟩
      have ho : rNum z r = (true, rHold (setN (fun k => psR r.2.2.2.2.2 k z.toNat) 61) r) := if_neg (by omega)
      rw [ho]
      exact ⟨rfl, _, _, rfl, hA1, hf1⟩
    · refine am_aload_n (q := 9) C dX6_takesNumber_8 rfl rfl ?_
      refine am_getIe (q := 12) (v := (iZ (r.2.2.2.2.2 : Int))) C fb_X6_29 dX6_takesNumber_9 rfl rfl kk_165 (show 165 < 215 by decide) r3 ?_
      refine am_iconst (q := 13) (v := iZ 2) C dX6_takesNumber_12 rfl rfl ?_
      refine am_icmpZ_ne (q := 16) (tgt := 18) C dX6_takesNumber_13 (by decide) rfl ⟨by omega, by omega⟩ ⟨by omega, by omega⟩ (fun c3 => ?_) (fun c3 => ?_)
      · refine am_aload_n (q := 19) C dX6_takesNumber_18 rfl rfl ?_
        refine am_aload_n (q := 20) C dX6_takesNumber_19 rfl rfl ?_
        refine am_iload_n (q := 21) C dX6_takesNumber_20 rfl rfl ?_
        rw [show z = ((z.toNat : Nat) : Int) by omega]
        refine am_callV (q := 24) (As := [.int (iZ (z.toNat : Int))]) (rest := [.ref 165]) C mb_X6_setOf im_X6_setOf se_X6_setOf ml_X6_107 cb_6 kk_165 (show 165 < 215 by decide) dX6_takesNumber_21 rfl (sp_X6_setOf hR (n := z.toNat) (by omega)) rfl rfl ⟨by decide, by decide⟩ ⟨Nat.le_refl _, Nat.le_refl _⟩ (Nat.le_of_ble_eq_true rfl) (am_rle ?_)
        refine am_longE (y := lN (setN (fun k => psR r.2.2.2.2.2 k z.toNat) 61)) (by simp) ?_
        refine am_callV (q := 27) (As := [.long (lN (setN (fun k => psR r.2.2.2.2.2 k z.toNat) 61))]) (rest := []) C mb_X6_hold im_X6_hold se_X6_hold ml_X6_91 cb_6 kk_165 (show 165 < 215 by decide) dX6_takesNumber_24 rfl (sp_X6_hold hR (s := setN (fun k => psR r.2.2.2.2.2 k z.toNat) 61) (setN_lt _ _)) rfl rfl ⟨by decide, by decide⟩ ⟨Nat.le_refl _, Nat.le_refl _⟩ (Nat.le_of_ble_eq_true rfl) (am_rv (fun w' hw' => ?_))
        obtain ⟨I1, J1, rfl, hA1, hf1⟩ := hw'
        refine am_iconst (q := 28) (v := iZ 1) C dX6_takesNumber_27 rfl rfl ?_
        refine am_zretB (b := true) C T dX6_takesNumber_28 rfl (Nat.le_refl _) (Nat.le_refl _) rfl ⟨_, rfl, ?_⟩
        have ho : rNum z r = (true, rHold (setN (fun k => psR r.2.2.2.2.2 k z.toNat) 61) r) := if_neg (by omega)
        rw [ho]
        exact ⟨rfl, _, _, rfl, hA1, hf1⟩
      · refine am_iconst (q := 17) (v := iZ 0) C dX6_takesNumber_16 rfl rfl ?_
        refine am_zretB (b := false) C T dX6_takesNumber_17 rfl (Nat.le_refl _) (Nat.le_refl _) rfl ⟨_, rfl, ?_⟩
        have ho : rNum z r = (false, r) := if_pos (by omega)
        rw [ho]
        exact ⟨rfl, _, _, rfl, hR, frR_refl⟩
set_option maxRecDepth 4000 in
theorem sp_X6_takesTest {r : RS} (hR : atR I J r) {n : Nat} {b : Nat → Nat} (hT : atT I n b) {s e : Nat} (hs : s ≤ e) (he : e ≤ n) (h2 : I 163 2 = iZ (s : Int)) (h3 : I 163 3 = iZ (e : Int)) : am_S G mX6_takesTest 6 0 0 [.ref 165, .ref 163] (215, kK, kR, I, J) (am_qi (fun v w' => v = (if (rTest (spl b s e) r).1 = true then 1 else 0) ∧ ∃ (I' : Nat → Nat → Int32) (J' : Nat → Nat → Int64), w' = (215, kK, kR, I', J') ∧ atR I' J' (rTest (spl b s e) r).2 ∧ frR I J I' J')) := by
  have r1 := hR.1
  have r2 := hR.2.1
  have r3 := hR.2.2.1
  have r4 := hR.2.2.2.1
  have r5 := hR.2.2.2.2.1
  have r6 := hR.2.2.2.2.2.1
  refine am_spec (plainFor_of_name (by decide +kernel)) (Nat.le_of_ble_eq_true rfl) (L := [some (.ref 165), some (.ref 163)]) rfl (fun X C T => ?_)
  refine am_aload_n (q := 1) C dX6_takesTest_0 rfl rfl ?_
  refine am_ldcS (q := 3) (i := 3) C rfl rfl dX6_takesTest_1 rfl ?_
  refine am_callN (q := 6) (As := [.ref (1000000 + 3)]) (rest := []) C mb_X8_spells im_X8_spells se_X8_spells mn_X6_82 cb_8 kk_163 (show 163 < 215 by decide) dX6_takesTest_3 rfl (sp_X8_spells hT hs he h2 h3 (i := 3) (by decide)) rfl rfl ⟨by decide, by decide⟩ ⟨Nat.le_refl _, Nat.le_refl _⟩ (Nat.le_of_ble_eq_true rfl) (am_rie ?_)
  refine am_ifB_eq (q := 9) (tgt := 17) C dX6_takesTest_6 (by decide) rfl (fun c1 => ?_) (fun c1 => ?_)
  · refine am_aload_n (q := 18) C dX6_takesTest_17 rfl rfl ?_
    refine am_ldcS (q := 20) (i := 4) C rfl rfl dX6_takesTest_18 rfl ?_
    refine am_callN (q := 23) (As := [.ref (1000000 + 4)]) (rest := []) C mb_X8_spells im_X8_spells se_X8_spells mn_X6_82 cb_8 kk_163 (show 163 < 215 by decide) dX6_takesTest_20 rfl (sp_X8_spells hT hs he h2 h3 (i := 4) (by decide)) rfl rfl ⟨by decide, by decide⟩ ⟨Nat.le_refl _, Nat.le_refl _⟩ (Nat.le_of_ble_eq_true rfl) (am_rie ?_)
    refine am_ifB_eq (q := 26) (tgt := 34) C dX6_takesTest_23 (by decide) rfl (fun c2 => ?_) (fun c2 => ?_)
    · refine am_aload_n (q := 35) C dX6_takesTest_34 rfl rfl ?_
      refine am_ldcS (q := 37) (i := 5) C rfl rfl dX6_takesTest_35 rfl ?_
      refine am_callN (q := 40) (As := [.ref (1000000 + 5)]) (rest := []) C mb_X8_spells im_X8_spells se_X8_spells mn_X6_82 cb_8 kk_163 (show 163 < 215 by decide) dX6_takesTest_37 rfl (sp_X8_spells hT hs he h2 h3 (i := 5) (by decide)) rfl rfl ⟨by decide, by decide⟩ ⟨Nat.le_refl _, Nat.le_refl _⟩ (Nat.le_of_ble_eq_true rfl) (am_rie ?_)
      refine am_ifB_eq (q := 43) (tgt := 51) C dX6_takesTest_40 (by decide) rfl (fun c3 => ?_) (fun c3 => ?_)
      · refine am_aload_n (q := 52) C dX6_takesTest_51 rfl rfl ?_
        refine am_ldcS (q := 54) (i := 6) C rfl rfl dX6_takesTest_52 rfl ?_
        refine am_callN (q := 57) (As := [.ref (1000000 + 6)]) (rest := []) C mb_X8_spells im_X8_spells se_X8_spells mn_X6_82 cb_8 kk_163 (show 163 < 215 by decide) dX6_takesTest_54 rfl (sp_X8_spells hT hs he h2 h3 (i := 6) (by decide)) rfl rfl ⟨by decide, by decide⟩ ⟨Nat.le_refl _, Nat.le_refl _⟩ (Nat.le_of_ble_eq_true rfl) (am_rie ?_)
        refine am_ifB_eq (q := 60) (tgt := 68) C dX6_takesTest_57 (by decide) rfl (fun c4 => ?_) (fun c4 => ?_)
        · refine am_iconst (q := 69) (v := iZ 0) C dX6_takesTest_68 rfl rfl ?_
          refine am_zretB (b := false) C T dX6_takesTest_69 rfl (Nat.le_refl _) (Nat.le_refl _) rfl ⟨_, rfl, ?_⟩
          have ho : rTest (spl b s e) r = (false, r) := by simp [rTest, *]
          rw [ho]
          exact ⟨rfl, _, _, rfl, hR, frR_refl⟩
        · refine am_aload_n (q := 61) C dX6_takesTest_60 rfl rfl ?_
          refine am_iconst (q := 62) (v := iZ 3) C dX6_takesTest_61 rfl rfl ?_
          refine am_putI (q := 65) C fw_X6_29 dX6_takesTest_62 rfl rfl kk_165 (show 165 < 215 by decide) ?_
          refine am_goto (q := 70) C dX6_takesTest_65 (by decide) ?_
          refine am_aload_n (q := 71) C dX6_takesTest_70 rfl rfl ?_
          refine am_iconst (q := 72) (v := iZ 1) C dX6_takesTest_71 rfl rfl ?_
          refine am_putI (q := 75) C fw_X6_26 dX6_takesTest_72 rfl rfl kk_165 (show 165 < 215 by decide) ?_
          refine am_iconst (q := 76) (v := iZ 1) C dX6_takesTest_75 rfl rfl ?_
          refine am_zretB (b := true) C T dX6_takesTest_76 rfl (Nat.le_refl _) (Nat.le_refl _) rfl ⟨_, rfl, ?_⟩
          have ho : rTest (spl b s e) r = (true, rSt 1 3 r) := by simp [rTest, *]
          rw [ho]
          exact ⟨rfl, _, _, rfl, atR_st (atR_ts hR (o := 3) (by decide)) (o := 1) (by decide), frR_up (by decide) (frR_up (by decide) frR_refl)⟩
      · refine am_aload_n (q := 44) C dX6_takesTest_43 rfl rfl ?_
        refine am_iconst (q := 45) (v := iZ 2) C dX6_takesTest_44 rfl rfl ?_
        refine am_putI (q := 48) C fw_X6_29 dX6_takesTest_45 rfl rfl kk_165 (show 165 < 215 by decide) ?_
        refine am_goto (q := 70) C dX6_takesTest_48 (by decide) ?_
        refine am_aload_n (q := 71) C dX6_takesTest_70 rfl rfl ?_
        refine am_iconst (q := 72) (v := iZ 1) C dX6_takesTest_71 rfl rfl ?_
        refine am_putI (q := 75) C fw_X6_26 dX6_takesTest_72 rfl rfl kk_165 (show 165 < 215 by decide) ?_
        refine am_iconst (q := 76) (v := iZ 1) C dX6_takesTest_75 rfl rfl ?_
        refine am_zretB (b := true) C T dX6_takesTest_76 rfl (Nat.le_refl _) (Nat.le_refl _) rfl ⟨_, rfl, ?_⟩
        have ho : rTest (spl b s e) r = (true, rSt 1 2 r) := by simp [rTest, *]
        rw [ho]
        exact ⟨rfl, _, _, rfl, atR_st (atR_ts hR (o := 2) (by decide)) (o := 1) (by decide), frR_up (by decide) (frR_up (by decide) frR_refl)⟩
    · refine am_aload_n (q := 27) C dX6_takesTest_26 rfl rfl ?_
      refine am_iconst (q := 28) (v := iZ 1) C dX6_takesTest_27 rfl rfl ?_
      refine am_putI (q := 31) C fw_X6_29 dX6_takesTest_28 rfl rfl kk_165 (show 165 < 215 by decide) ?_
      refine am_goto (q := 70) C dX6_takesTest_31 (by decide) ?_
      refine am_aload_n (q := 71) C dX6_takesTest_70 rfl rfl ?_
      refine am_iconst (q := 72) (v := iZ 1) C dX6_takesTest_71 rfl rfl ?_
      refine am_putI (q := 75) C fw_X6_26 dX6_takesTest_72 rfl rfl kk_165 (show 165 < 215 by decide) ?_
      refine am_iconst (q := 76) (v := iZ 1) C dX6_takesTest_75 rfl rfl ?_
      refine am_zretB (b := true) C T dX6_takesTest_76 rfl (Nat.le_refl _) (Nat.le_refl _) rfl ⟨_, rfl, ?_⟩
      have ho : rTest (spl b s e) r = (true, rSt 1 1 r) := by simp [rTest, *]
      rw [ho]
      exact ⟨rfl, _, _, rfl, atR_st (atR_ts hR (o := 1) (by decide)) (o := 1) (by decide), frR_up (by decide) (frR_up (by decide) frR_refl)⟩
  · refine am_aload_n (q := 10) C dX6_takesTest_9 rfl rfl ?_
    refine am_iconst (q := 11) (v := iZ 0) C dX6_takesTest_10 rfl rfl ?_
    refine am_putI (q := 14) C fw_X6_29 dX6_takesTest_11 rfl rfl kk_165 (show 165 < 215 by decide) ?_
    refine am_goto (q := 70) C dX6_takesTest_14 (by decide) ?_
    refine am_aload_n (q := 71) C dX6_takesTest_70 rfl rfl ?_
    refine am_iconst (q := 72) (v := iZ 1) C dX6_takesTest_71 rfl rfl ?_
    refine am_putI (q := 75) C fw_X6_26 dX6_takesTest_72 rfl rfl kk_165 (show 165 < 215 by decide) ?_
    refine am_iconst (q := 76) (v := iZ 1) C dX6_takesTest_75 rfl rfl ?_
    refine am_zretB (b := true) C T dX6_takesTest_76 rfl (Nat.le_refl _) (Nat.le_refl _) rfl ⟨_, rfl, ?_⟩
    have ho : rTest (spl b s e) r = (true, rSt 1 0 r) := by simp [rTest, *]
    rw [ho]
    exact ⟨rfl, _, _, rfl, atR_st (atR_ts hR (o := 0) (by decide)) (o := 1) (by decide), frR_up (by decide) (frR_up (by decide) frR_refl)⟩
set_option maxRecDepth 4000 in
theorem sp_X6_takesBeginning {r : RS} (hR : atR I J r) {n : Nat} {b : Nat → Nat} (hT : atT I n b) {s e : Nat} (hs : s ≤ e) (he : e ≤ n) (h2 : I 163 2 = iZ (s : Int)) (h3 : I 163 3 = iZ (e : Int)) : am_S G mX6_takesBeginning 7 0 0 [.ref 165, .ref 163] (215, kK, kR, I, J) (am_qi (fun v w' => v = (if (rBegn (spl b s e) r).1 = true then 1 else 0) ∧ ∃ (I' : Nat → Nat → Int32) (J' : Nat → Nat → Int64), w' = (215, kK, kR, I', J') ∧ atR I' J' (rBegn (spl b s e) r).2 ∧ frR I J I' J')) := by
  have r1 := hR.1
  have r2 := hR.2.1
  have r3 := hR.2.2.1
  have r4 := hR.2.2.2.1
  have r5 := hR.2.2.2.2.1
  have r6 := hR.2.2.2.2.2.1
  refine am_spec (plainFor_of_name (by decide +kernel)) (Nat.le_of_ble_eq_true rfl) (L := [some (.ref 165), some (.ref 163)]) rfl (fun X C T => ?_)
  refine am_aload_n (q := 1) C dX6_takesBeginning_0 rfl rfl ?_
  refine am_ldcS (q := 3) (i := 0) C rfl rfl dX6_takesBeginning_1 rfl ?_
  refine am_callN (q := 6) (As := [.ref (1000000 + 0)]) (rest := []) C mb_X8_spells im_X8_spells se_X8_spells mn_X6_82 cb_8 kk_163 (show 163 < 215 by decide) dX6_takesBeginning_3 rfl (sp_X8_spells hT hs he h2 h3 (i := 0) (by decide)) rfl rfl ⟨by decide, by decide⟩ ⟨Nat.le_refl _, Nat.le_refl _⟩ (Nat.le_of_ble_eq_true rfl) (am_rie ?_)
  refine am_ifB_eq (q := 9) (tgt := 15) C dX6_takesBeginning_6 (by decide) rfl (fun c1 => ?_) (fun c1 => ?_)
  · refine am_aload_n (q := 16) C dX6_takesBeginning_15 rfl rfl ?_
    refine am_ldcS (q := 18) (i := 1) C rfl rfl dX6_takesBeginning_16 rfl ?_
    refine am_callN (q := 21) (As := [.ref (1000000 + 1)]) (rest := []) C mb_X8_spells im_X8_spells se_X8_spells mn_X6_82 cb_8 kk_163 (show 163 < 215 by decide) dX6_takesBeginning_18 rfl (sp_X8_spells hT hs he h2 h3 (i := 1) (by decide)) rfl rfl ⟨by decide, by decide⟩ ⟨Nat.le_refl _, Nat.le_refl _⟩ (Nat.le_of_ble_eq_true rfl) (am_rie ?_)
    refine am_ifB_eq (q := 24) (tgt := 33) C dX6_takesBeginning_21 (by decide) rfl (fun c2 => ?_) (fun c2 => ?_)
    · refine am_aload_n (q := 34) C dX6_takesBeginning_33 rfl rfl ?_
      refine am_ldcS (q := 36) (i := 2) C rfl rfl dX6_takesBeginning_34 rfl ?_
      refine am_callN (q := 39) (As := [.ref (1000000 + 2)]) (rest := []) C mb_X8_spells im_X8_spells se_X8_spells mn_X6_82 cb_8 kk_163 (show 163 < 215 by decide) dX6_takesBeginning_36 rfl (sp_X8_spells hT hs he h2 h3 (i := 2) (by decide)) rfl rfl ⟨by decide, by decide⟩ ⟨Nat.le_refl _, Nat.le_refl _⟩ (Nat.le_of_ble_eq_true rfl) (am_rie ?_)
      refine am_ifB_eq (q := 42) (tgt := 69) C dX6_takesBeginning_39 (by decide) rfl (fun c3 => ?_) (fun c3 => ?_)
      · refine am_aload_n (q := 70) C dX6_takesBeginning_69 rfl rfl ?_
        refine am_aload_n (q := 71) C dX6_takesBeginning_70 rfl rfl ?_
        refine am_callV (q := 74) (As := [.ref 163]) (rest := []) C mb_X6_takesTest im_X6_takesTest se_X6_takesTest ml_X6_96 cb_6 kk_165 (show 165 < 215 by decide) dX6_takesBeginning_71 rfl (sp_X6_takesTest hR hT hs he h2 h3) rfl rfl ⟨by decide, by decide⟩ ⟨Nat.le_refl _, Nat.le_refl _⟩ (Nat.le_of_ble_eq_true rfl) (am_ri (fun v' w' hw' => ?_))
        obtain ⟨rfl, I1, J1, rfl, hA1, hf1⟩ := hw'
        refine am_zret C T dX6_takesBeginning_74 rfl (ite_nar _) (Nat.le_refl _) (Nat.le_refl _) ⟨_, rfl, ?_⟩
        have ho : rBegn (spl b s e) r = rTest (spl b s e) r := by simp [rBegn, *]
        rw [ho]
        exact ⟨rfl, _, _, rfl, hA1, hf1⟩
      · refine am_aload_n (q := 43) C dX6_takesBeginning_42 rfl rfl ?_
        refine am_getIe (q := 46) (v := (iZ (r.1 : Int))) C fb_X6_22 dX6_takesBeginning_43 rfl rfl kk_165 (show 165 < 215 by decide) r1 ?_
        refine am_iconst (q := 47) (v := iZ 4) C dX6_takesBeginning_46 rfl rfl ?_
        refine am_icmpZ_lt (q := 50) (tgt := 52) C dX6_takesBeginning_47 (by decide) rfl ⟨by omega, by omega⟩ ⟨by omega, by omega⟩ (fun c4 => ?_) (fun c4 => ?_)
        · refine am_aload_n (q := 53) C dX6_takesBeginning_52 rfl rfl ?_
          refine am_dup (q := 54) C dX6_takesBeginning_53 rfl rfl ?_
          refine am_getIe (q := 57) (v := (iZ (r.1 : Int))) C fb_X6_22 dX6_takesBeginning_54 rfl rfl kk_165 (show 165 < 215 by decide) r1 ?_
          refine am_iconst (q := 58) (v := iZ 1) C dX6_takesBeginning_57 rfl rfl ?_
          refine am_iaddZ (q := 59) C dX6_takesBeginning_58 rfl ?_
          refine am_putI (q := 62) C fw_X6_22 dX6_takesBeginning_59 rfl rfl kk_165 (show 165 < 215 by decide) ?_
          refine am_aload_n (q := 63) C dX6_takesBeginning_62 rfl rfl ?_
          refine am_lconst (q := 64) (v := lN 0) C dX6_takesBeginning_63 rfl rfl ?_
          refine am_callV (q := 67) (As := [.long (lN 0)]) (rest := []) C mb_X6_begin im_X6_begin se_X6_begin ml_X6_43 cb_6 kk_165 (show 165 < 215 by decide) dX6_takesBeginning_64 rfl (sp_X6_begin (atR_op hR (o := r.1 + 1) (by omega)) (v := 0) (by decide)) rfl rfl ⟨by decide, by decide⟩ ⟨Nat.le_refl _, Nat.le_refl _⟩ (Nat.le_of_ble_eq_true rfl) (am_rv (fun w' hw' => ?_))
          obtain ⟨I1, J1, rfl, hA1, hf1⟩ := hw'
          refine am_iconst (q := 68) (v := iZ 1) C dX6_takesBeginning_67 rfl rfl ?_
          refine am_zretB (b := true) C T dX6_takesBeginning_68 rfl (Nat.le_refl _) (Nat.le_refl _) rfl ⟨_, rfl, ?_⟩
          have ho : rBegn (spl b s e) r = (true, rBeg 0 (rOp (r.1 + 1) r)) := by simp [rBegn, *]; omega
          rw [ho]
          exact ⟨rfl, _, _, rfl, hA1, frR_tr (frR_up (by decide) frR_refl) hf1⟩
        · refine am_iconst (q := 51) (v := iZ 0) C dX6_takesBeginning_50 rfl rfl ?_
          refine am_zretB (b := false) C T dX6_takesBeginning_51 rfl (Nat.le_refl _) (Nat.le_refl _) rfl ⟨_, rfl, ?_⟩
          have ho : rBegn (spl b s e) r = (false, r) := by simp [rBegn, *]; omega
          rw [ho]
          exact ⟨rfl, _, _, rfl, hR, frR_refl⟩
    · refine am_aload_n (q := 25) C dX6_takesBeginning_24 rfl rfl ?_
      refine am_ldc2 (q := 28) C dX6_takesBeginning_25 rfl ck_X6_32 ?_
      refine am_longE (y := lN 2305843009213693951) rfl ?_
      refine am_callV (q := 31) (As := [.long (lN 2305843009213693951)]) (rest := []) C mb_X6_hold im_X6_hold se_X6_hold ml_X6_91 cb_6 kk_165 (show 165 < 215 by decide) dX6_takesBeginning_28 rfl (sp_X6_hold hR (s := anyS) (by decide)) rfl rfl ⟨by decide, by decide⟩ ⟨Nat.le_refl _, Nat.le_refl _⟩ (Nat.le_of_ble_eq_true rfl) (am_rv (fun w' hw' => ?_))
      obtain ⟨I1, J1, rfl, hA1, hf1⟩ := hw'
      refine am_iconst (q := 32) (v := iZ 1) C dX6_takesBeginning_31 rfl rfl ?_
      refine am_zretB (b := true) C T dX6_takesBeginning_32 rfl (Nat.le_refl _) (Nat.le_refl _) rfl ⟨_, rfl, ?_⟩
      have ho : rBegn (spl b s e) r = (true, rHold anyS r) := by simp [rBegn, *]
      rw [ho]
      exact ⟨rfl, _, _, rfl, hA1, hf1⟩
  · refine am_aload_n (q := 10) C dX6_takesBeginning_9 rfl rfl ?_
    refine am_callV (q := 13) (As := []) (rest := []) C mb_X6_deny im_X6_deny se_X6_deny ml_X6_86 cb_6 kk_165 (show 165 < 215 by decide) dX6_takesBeginning_10 rfl (sp_X6_deny hR) rfl rfl ⟨by decide, by decide⟩ ⟨Nat.le_refl _, Nat.le_refl _⟩ (Nat.le_of_ble_eq_true rfl) (am_rv (fun w' hw' => ?_))
    obtain ⟨I1, J1, rfl, hA1, hf1⟩ := hw'
    refine am_iconst (q := 14) (v := iZ 1) C dX6_takesBeginning_13 rfl rfl ?_
    refine am_zretB (b := true) C T dX6_takesBeginning_14 rfl (Nat.le_refl _) (Nat.le_refl _) rfl ⟨_, rfl, ?_⟩
    have ho : rBegn (spl b s e) r = (true, rDeny r) := by simp [rBegn, *]
    rw [ho]
    exact ⟨rfl, _, _, rfl, hA1, hf1⟩
set_option maxRecDepth 4000 in
theorem sp_X6_takesJoint {r : RS} (hR : atR I J r) {n : Nat} {b : Nat → Nat} (hT : atT I n b) {s e : Nat} (hs : s ≤ e) (he : e ≤ n) (h2 : I 163 2 = iZ (s : Int)) (h3 : I 163 3 = iZ (e : Int)) : am_S G mX6_takesJoint 6 0 0 [.ref 165, .ref 163] (215, kK, kR, I, J) (am_qi (fun v w' => v = (if (rJnt (spl b s e) r).1 = true then 1 else 0) ∧ ∃ (I' : Nat → Nat → Int32) (J' : Nat → Nat → Int64), w' = (215, kK, kR, I', J') ∧ atR I' J' (rJnt (spl b s e) r).2 ∧ frR I J I' J')) := by
  have r1 := hR.1
  have r2 := hR.2.1
  have r3 := hR.2.2.1
  have r4 := hR.2.2.2.1
  have r5 := hR.2.2.2.2.1
  have r6 := hR.2.2.2.2.2.1
  refine am_spec (plainFor_of_name (by decide +kernel)) (Nat.le_of_ble_eq_true rfl) (L := [some (.ref 165), some (.ref 163), none, none]) rfl (fun X C T => ?_)
  refine am_aload_n (q := 1) C dX6_takesJoint_0 rfl rfl ?_
  refine am_ldcS (q := 3) (i := 7) C rfl rfl dX6_takesJoint_1 rfl ?_
  refine am_callN (q := 6) (As := [.ref (1000000 + 7)]) (rest := []) C mb_X8_spells im_X8_spells se_X8_spells mn_X6_82 cb_8 kk_163 (show 163 < 215 by decide) dX6_takesJoint_3 rfl (sp_X8_spells hT hs he h2 h3 (i := 7) (by decide)) rfl rfl ⟨by decide, by decide⟩ ⟨Nat.le_refl _, Nat.le_refl _⟩ (Nat.le_of_ble_eq_true rfl) (am_rie ?_)
  refine am_ifB_eq (q := 9) (tgt := 16) C dX6_takesJoint_6 (by decide) rfl (fun c1 => ?_) (fun c1 => ?_)
  · refine am_aload_n (q := 17) C dX6_takesJoint_16 rfl rfl ?_
    refine am_ldcS (q := 19) (i := 8) C rfl rfl dX6_takesJoint_17 rfl ?_
    refine am_callN (q := 22) (As := [.ref (1000000 + 8)]) (rest := []) C mb_X8_spells im_X8_spells se_X8_spells mn_X6_82 cb_8 kk_163 (show 163 < 215 by decide) dX6_takesJoint_19 rfl (sp_X8_spells hT hs he h2 h3 (i := 8) (by decide)) rfl rfl ⟨by decide, by decide⟩ ⟨Nat.le_refl _, Nat.le_refl _⟩ (Nat.le_of_ble_eq_true rfl) (am_rie ?_)
    refine am_ifB_eq (q := 25) (tgt := 35) C dX6_takesJoint_22 (by decide) rfl (fun c2 => ?_) (fun c2 => ?_)
    · refine am_aload_n (q := 36) C dX6_takesJoint_35 rfl rfl ?_
      refine am_ldcS (q := 38) (i := 9) C rfl rfl dX6_takesJoint_36 rfl ?_
      refine am_callN (q := 41) (As := [.ref (1000000 + 9)]) (rest := []) C mb_X8_spells im_X8_spells se_X8_spells mn_X6_82 cb_8 kk_163 (show 163 < 215 by decide) dX6_takesJoint_38 rfl (sp_X8_spells hT hs he h2 h3 (i := 9) (by decide)) rfl rfl ⟨by decide, by decide⟩ ⟨Nat.le_refl _, Nat.le_refl _⟩ (Nat.le_of_ble_eq_true rfl) (am_rie ?_)
      refine am_ifB_eq (q := 44) (tgt := 52) C dX6_takesJoint_41 (by decide) rfl (fun c3 => ?_) (fun c3 => ?_)
      · refine am_iconst (q := 53) (v := iZ 0) C dX6_takesJoint_52 rfl rfl ?_
        refine am_zretB (b := false) C T dX6_takesJoint_53 rfl (Nat.le_refl _) (Nat.le_refl _) rfl ⟨_, rfl, ?_⟩
        have ho : rJnt (spl b s e) r = (false, r) := by simp [rJnt, *] <;> omega
        rw [ho]
        exact ⟨rfl, _, _, rfl, hR, frR_refl⟩
      · refine am_aload_n (q := 45) C dX6_takesJoint_44 rfl rfl ?_
        refine am_getIe (q := 48) (v := (iZ (r.1 : Int))) C fb_X6_22 dX6_takesJoint_45 rfl rfl kk_165 (show 165 < 215 by decide) r1 ?_
        refine am_iconst (q := 49) (v := iZ 1) C dX6_takesJoint_48 rfl rfl ?_
        refine am_icmpZ_ge (q := 52) (tgt := 54) C dX6_takesJoint_49 (by decide) rfl ⟨by omega, by omega⟩ ⟨by omega, by omega⟩ (fun c4 => ?_) (fun c4 => ?_)
        · refine am_aload_n (q := 55) C dX6_takesJoint_54 rfl rfl ?_
          refine am_callV (q := 58) (As := []) (rest := []) C mb_X6_soFar im_X6_soFar se_X6_soFar ml_X6_62 cb_6 kk_165 (show 165 < 215 by decide) dX6_takesJoint_55 rfl (sp_X6_soFar hR) rfl rfl ⟨by decide, by decide⟩ ⟨Nat.le_refl _, Nat.le_refl _⟩ (Nat.le_of_ble_eq_true rfl) (am_rle ?_)
          refine am_lstore_n (q := 59) (L' := [some (.ref 165), some (.ref 163), some (.long (lN (rSo r))), none]) C dX6_takesJoint_58 rfl (by decide) rfl rfl ?_
          refine am_aload_n (q := 60) C dX6_takesJoint_59 rfl rfl ?_
          refine am_dup (q := 61) C dX6_takesJoint_60 rfl rfl ?_
          refine am_getIe (q := 64) (v := (iZ (r.1 : Int))) C fb_X6_22 dX6_takesJoint_61 rfl rfl kk_165 (show 165 < 215 by decide) r1 ?_
          refine am_iconst (q := 65) (v := iZ 1) C dX6_takesJoint_64 rfl rfl ?_
          refine am_isubZ (q := 66) C dX6_takesJoint_65 rfl ?_
          refine am_putI (q := 69) C fw_X6_22 dX6_takesJoint_66 rfl rfl kk_165 (show 165 < 215 by decide) ?_
          refine am_aload_n (q := 70) C dX6_takesJoint_69 rfl rfl ?_
          refine am_lload_n (q := 71) C dX6_takesJoint_70 rfl rfl ?_
          rw [show (r.1 : Int) - 1 = ((r.1 - 1 : Nat) : Int) by omega]
          refine am_callV (q := 74) (As := [.long (lN (rSo r))]) (rest := []) C mb_X6_hold im_X6_hold se_X6_hold ml_X6_91 cb_6 kk_165 (show 165 < 215 by decide) dX6_takesJoint_71 rfl (sp_X6_hold (atR_op hR (o := r.1 - 1) (by omega)) (s := rSo r) (rSo_lt hR)) rfl rfl ⟨by decide, by decide⟩ ⟨Nat.le_refl _, Nat.le_refl _⟩ (Nat.le_of_ble_eq_true rfl) (am_rv (fun w' hw' => ?_))
          obtain ⟨I1, J1, rfl, hA1, hf1⟩ := hw'
          refine am_iconst (q := 75) (v := iZ 1) C dX6_takesJoint_74 rfl rfl ?_
          refine am_zretB (b := true) C T dX6_takesJoint_75 rfl (Nat.le_refl _) (Nat.le_refl _) rfl ⟨_, rfl, ?_⟩
          have ho : rJnt (spl b s e) r = (true, rHold (rSo r) (rOp (r.1 - 1) r)) := by simp [rJnt, *]; omega
          rw [ho]
          exact ⟨rfl, _, _, rfl, hA1, frR_tr (frR_up (by decide) frR_refl) hf1⟩
        · refine am_iconst (q := 53) (v := iZ 0) C dX6_takesJoint_52 rfl rfl ?_
          refine am_zretB (b := false) C T dX6_takesJoint_53 rfl (Nat.le_refl _) (Nat.le_refl _) rfl ⟨_, rfl, ?_⟩
          have ho : rJnt (spl b s e) r = (false, r) := by simp [rJnt, *] <;> omega
          rw [ho]
          exact ⟨rfl, _, _, rfl, hR, frR_refl⟩
    · refine am_aload_n (q := 26) C dX6_takesJoint_25 rfl rfl ?_
      refine am_aload_n (q := 27) C dX6_takesJoint_26 rfl rfl ?_
      refine am_callV (q := 30) (As := []) (rest := [.ref 165]) C mb_X6_soFar im_X6_soFar se_X6_soFar ml_X6_62 cb_6 kk_165 (show 165 < 215 by decide) dX6_takesJoint_27 rfl (sp_X6_soFar hR) rfl rfl ⟨by decide, by decide⟩ ⟨Nat.le_refl _, Nat.le_refl _⟩ (Nat.le_of_ble_eq_true rfl) (am_rle ?_)
      refine am_callV (q := 33) (As := [.long (lN (rSo r))]) (rest := []) C mb_X6_begin im_X6_begin se_X6_begin ml_X6_43 cb_6 kk_165 (show 165 < 215 by decide) dX6_takesJoint_30 rfl (sp_X6_begin hR (v := rSo r) (rSo_lt hR)) rfl rfl ⟨by decide, by decide⟩ ⟨Nat.le_refl _, Nat.le_refl _⟩ (Nat.le_of_ble_eq_true rfl) (am_rv (fun w' hw' => ?_))
      obtain ⟨I1, J1, rfl, hA1, hf1⟩ := hw'
      refine am_iconst (q := 34) (v := iZ 1) C dX6_takesJoint_33 rfl rfl ?_
      refine am_zretB (b := true) C T dX6_takesJoint_34 rfl (Nat.le_refl _) (Nat.le_refl _) rfl ⟨_, rfl, ?_⟩
      have ho : rJnt (spl b s e) r = (true, rBeg (rSo r) r) := by simp [rJnt, *]
      rw [ho]
      exact ⟨rfl, _, _, rfl, hA1, hf1⟩
  · refine am_aload_n (q := 10) C dX6_takesJoint_9 rfl rfl ?_
    refine am_iconst (q := 11) (v := iZ 0) C dX6_takesJoint_10 rfl rfl ?_
    refine am_putI (q := 14) C fw_X6_26 dX6_takesJoint_11 rfl rfl kk_165 (show 165 < 215 by decide) ?_
    refine am_iconst (q := 15) (v := iZ 1) C dX6_takesJoint_14 rfl rfl ?_
    refine am_zretB (b := true) C T dX6_takesJoint_15 rfl (Nat.le_refl _) (Nat.le_refl _) rfl ⟨_, rfl, ?_⟩
    have ho : rJnt (spl b s e) r = (true, rSt 0 r.2.2.2.2.2 r) := by simp [rJnt, *]
    rw [ho]
    exact ⟨rfl, _, _, rfl, atR_st hR (o := 0) (by decide), frR_up (by decide) frR_refl⟩
