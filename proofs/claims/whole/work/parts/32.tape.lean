variable {G : am_G} {I : Nat → Nat → Int32} {J : Nat → Nat → Int64}
def sg (z : Nat) : Int := if z < 128 then (z : Int) else (z : Int) - 256
/-- the tape's bytes -/
def atT (I : Nat → Nat → Int32) (n : Nat) (b : Nat → Nat) : Prop := I 163 1 = iZ (n : Int) ∧ n ≤ 100 ∧ ∀ k, k < n → I 164 k = iZ (sg (b k)) ∧ b k < 256
theorem atT.on {I I' : Nat → Nat → Int32} {n : Nat} {b : Nat → Nat} (h : atT I n b) (h1 : I' 163 1 = I 163 1) (h2 : I' 164 = I 164) : atT I' n b := by unfold atT; rw [h1, h2]; exact h
theorem sg_8 {z : Nat} (h : z < 256) : (iZ (sg z)).toInt8.toInt32 = iZ (sg z) := (show ∀ z, z < 256 → (iZ (sg z)).toInt8.toInt32 = iZ (sg z) by decide +kernel) z h
theorem sg_b {z : Nat} (h : z < 256) : -128 ≤ sg z ∧ sg z ≤ 127 ∧ (z < 128 → sg z = z) ∧ (128 ≤ z → sg z < 0) := by unfold sg; split <;> omega
def srB (z : Nat) : Nat := if z = 32 then 4 else if 97 ≤ z ∧ z ≤ 122 then 1 else if 48 ≤ z ∧ z ≤ 57 then 2 else 3
def srt (n : Nat) (b : Nat → Nat) (p : Nat) : Nat := if p < n then srB (b p) else 0
/-- blanks are passed -/
def tkS (n : Nat) (b : Nat → Nat) : Nat → Nat → Nat
  | 0, p => p
  | k + 1, p => if p < n ∧ srt n b p = 4 then tkS n b k (p + 1) else p
/-- a token goes on -/
def tkE (n : Nat) (b : Nat → Nat) (c : Nat) : Nat → Nat → Nat
  | 0, p => p
  | k + 1, p => if p < n ∧ (c = 1 ∨ c = 2) ∧ srt n b p = c then tkE n b c k (p + 1) else p
def tkA (n : Nat) (b : Nat → Nat) (e : Nat) : Nat := tkS n b (n - e) e
def tkZ (n : Nat) (b : Nat → Nat) (s : Nat) : Nat := if srt n b s = 0 then s else tkE n b (srt n b s) (n - (s + 1)) (s + 1)
theorem srB_pos (z : Nat) : srB z ≠ 0 ∧ srB z ≤ 4 := by unfold srB; split; omega; split; omega; split <;> omega
theorem srt_le (n : Nat) (b : Nat → Nat) (p : Nat) : srt n b p ≤ 4 := by unfold srt; have := srB_pos (b p); split <;> omega
theorem srt_0 {n : Nat} {b : Nat → Nat} {p : Nat} : srt n b p = 0 ↔ n ≤ p := by unfold srt; have := srB_pos (b p); split <;> omega
theorem tkS_le {n : Nat} {b : Nat → Nat} : ∀ k p, p + k = n → p ≤ tkS n b k p ∧ tkS n b k p ≤ n
  | 0, p, h => ⟨Nat.le_refl _, by show p ≤ n; omega⟩
  | k + 1, p, h => by
    show p ≤ (if _ then _ else _) ∧ (if _ then _ else _) ≤ n
    have := tkS_le (n := n) (b := b) k (p + 1) (by omega)
    split <;> omega
theorem tkE_le {n : Nat} {b : Nat → Nat} {c : Nat} : ∀ k p, p + k = n → p ≤ tkE n b c k p ∧ tkE n b c k p ≤ n
  | 0, p, h => ⟨Nat.le_refl _, by show p ≤ n; omega⟩
  | k + 1, p, h => by
    show p ≤ (if _ then _ else _) ∧ (if _ then _ else _) ≤ n
    have := tkE_le (n := n) (b := b) (c := c) k (p + 1) (by omega)
    split <;> omega
theorem tkA_le {n : Nat} {b : Nat → Nat} {e : Nat} (h : e ≤ n) : e ≤ tkA n b e ∧ tkA n b e ≤ n := tkS_le (n - e) e (by omega)
theorem tkZ_le {n : Nat} {b : Nat → Nat} {s : Nat} (h : s ≤ n) : s ≤ tkZ n b s ∧ tkZ n b s ≤ n := by
  unfold tkZ
  by_cases e : srt n b s = 0
  · rw [if_pos e]; omega
  · rw [if_neg e]
    have := mt srt_0.mpr e
    have := tkE_le (n := n) (b := b) (c := srt n b s) (n - (s + 1)) (s + 1) (by omega)
    omega
set_option maxRecDepth 4000 in
theorem sp_X8_take {n : Nat} {b : Nat → Nat} (hT : atT I n b) (hn : n < 100) {z : Nat} (hz : z < 256) : am_S G mX8_take 1 0 0 [.ref 163, .int (iZ (sg z))] (215, kK, kR, I, J) (am_qv (fun w' => ∃ I' : Nat → Nat → Int32, w' = (215, kK, kR, I', J) ∧ atT I' (n + 1) (fun k => if k = n then z else b k) ∧ (∀ h, h ≠ 163 → h ≠ 164 → I' h = I h) ∧ ∀ k, k ≠ 1 → I' 163 k = I 163 k)) := by
  have hT9 := hT
  obtain ⟨t1, t2, t3⟩ := hT
  refine am_spec (plainFor_of_name (by decide +kernel)) (Nat.le_of_ble_eq_true rfl) (L := [some (.ref 163), some (.int (iZ (sg z)))]) rfl (fun X C T => ?_)
  refine am_aload_n (q := 1) C dX8_take_0 rfl rfl ?_
  refine am_getIe (q := 4) (v := (iZ (n : Int))) C fb_X8_15 dX8_take_1 rfl rfl kk_163 (show 163 < 215 by decide) t1 ?_
  refine am_ifZ_lt (q := 7) (tgt := 36) C dX8_take_4 (by decide) rfl ⟨by omega, by omega⟩ (fun c1 => ?_) (fun c1 => ?_)
  · refine am_vret C T dX8_take_36 rfl (Nat.le_refl _) (Nat.le_refl _) ⟨rfl, ?_⟩
    exfalso; omega
  · refine am_aload_n (q := 8) C dX8_take_7 rfl rfl ?_
    refine am_getIe (q := 11) (v := (iZ (n : Int))) C fb_X8_15 dX8_take_8 rfl rfl kk_163 (show 163 < 215 by decide) t1 ?_
    refine am_bipush (q := 13) (v := iZ 100) C dX8_take_11 rfl rfl ?_
    refine am_icmpZ_ge (q := 16) (tgt := 36) C dX8_take_13 (by decide) rfl ⟨by omega, by omega⟩ ⟨by omega, by omega⟩ (fun c2 => ?_) (fun c2 => ?_)
    · refine am_vret C T dX8_take_36 rfl (Nat.le_refl _) (Nat.le_refl _) ⟨rfl, ?_⟩
      exfalso; omega
    · refine am_aload_n (q := 17) C dX8_take_16 rfl rfl ?_
      refine am_getR (q := 20) C fb_X8_9 dX8_take_17 rfl rfl kk_163 (show 163 < 215 by decide) kr_163_0 ?_
      refine am_aload_n (q := 21) C dX8_take_20 rfl rfl ?_
      refine am_getIe (q := 24) (v := (iZ (n : Int))) C fb_X8_15 dX8_take_21 rfl rfl kk_163 (show 163 < 215 by decide) t1 ?_
      refine am_iload_n (q := 25) C dX8_take_24 rfl rfl ?_
      refine am_bastoreZ (q := 26) n C dX8_take_25 rfl kk_164 (show 164 < 215 by decide) rfl (by omega) (by decide) ?_
      refine am_aload_n (q := 27) C dX8_take_26 rfl rfl ?_
      refine am_dup (q := 28) C dX8_take_27 rfl rfl ?_
      refine am_getIe (q := 31) (v := (iZ (n : Int))) C fb_X8_15 dX8_take_28 rfl rfl kk_163 (show 163 < 215 by decide) (by rw [am_up_row _ _ _ _ (by decide)]; exact t1) ?_
      refine am_iconst (q := 32) (v := iZ 1) C dX8_take_31 rfl rfl ?_
      refine am_iaddZ (q := 33) C dX8_take_32 rfl ?_
      refine am_putI (q := 36) C fw_X8_15 dX8_take_33 rfl rfl kk_163 (show 163 < 215 by decide) ?_
      refine am_vret C T dX8_take_36 rfl (Nat.le_refl _) (Nat.le_refl _) ⟨rfl, ?_⟩
      refine ⟨_, rfl, ⟨by rw [am_up_eq]; rfl, by omega, fun k hk => ?_⟩, fun h h1 h2 => by rw [am_up_row _ _ _ _ h1, am_up_row _ _ _ _ h2], fun k hk => by rw [am_up_ne _ _ _ _ (Or.inr hk), am_up_row _ _ _ _ (by decide)]⟩
      rw [am_up_row _ _ _ _ (by decide)]
      by_cases e : k = n
      · subst e; rw [am_up_eq]; dsimp only; rw [if_pos rfl]; exact ⟨sg_8 hz, hz⟩
      · rw [am_up_ne _ _ _ _ (Or.inr e)]; dsimp only; rw [if_neg e]; exact t3 k (by omega)
set_option maxRecDepth 4000 in
theorem sp_X8_clear  : am_S G mX8_clear 1 0 0 [.ref 163] (215, kK, kR, I, J) (am_fv (215, kK, kR, (am_up I 163 1 (iZ 0)), J)) := by
  refine am_spec (plainFor_of_name (by decide +kernel)) (Nat.le_of_ble_eq_true rfl) (L := [some (.ref 163)]) rfl (fun X C T => ?_)
  refine am_aload_n (q := 1) C dX8_clear_0 rfl rfl ?_
  refine am_iconst (q := 2) (v := iZ 0) C dX8_clear_1 rfl rfl ?_
  refine am_putI (q := 5) C fw_X8_15 dX8_clear_2 rfl rfl kk_163 (show 163 < 215 by decide) ?_
  refine am_vret C T dX8_clear_5 rfl (Nat.le_refl _) (Nat.le_refl _) ⟨rfl, ?_⟩
  rfl
set_option maxRecDepth 4000 in
theorem sp_X8_rewind  : am_S G mX8_rewind 1 0 0 [.ref 163] (215, kK, kR, I, J) (am_fv (215, kK, kR, (am_up (am_up I 163 2 (iZ 0)) 163 3 (iZ 0)), J)) := by
  refine am_spec (plainFor_of_name (by decide +kernel)) (Nat.le_of_ble_eq_true rfl) (L := [some (.ref 163)]) rfl (fun X C T => ?_)
  refine am_aload_n (q := 1) C dX8_rewind_0 rfl rfl ?_
  refine am_iconst (q := 2) (v := iZ 0) C dX8_rewind_1 rfl rfl ?_
  refine am_putI (q := 5) C fw_X8_19 dX8_rewind_2 rfl rfl kk_163 (show 163 < 215 by decide) ?_
  refine am_aload_n (q := 6) C dX8_rewind_5 rfl rfl ?_
  refine am_iconst (q := 7) (v := iZ 0) C dX8_rewind_6 rfl rfl ?_
  refine am_putI (q := 10) C fw_X8_22 dX8_rewind_7 rfl rfl kk_163 (show 163 < 215 by decide) ?_
  refine am_vret C T dX8_rewind_10 rfl (Nat.le_refl _) (Nat.le_refl _) ⟨rfl, ?_⟩
  rfl
set_option maxRecDepth 4000 in
theorem sp_X8_byteAt {n : Nat} {b : Nat → Nat} (hT : atT I n b) {p : Int} (hp : rg p) : am_S G mX8_byteAt 1 0 0 [.ref 163, .int (iZ p)] (215, kK, kR, I, J) (am_fi (iZ (if 0 ≤ p ∧ p < n then sg (b p.toNat) else -1)) (215, kK, kR, I, J)) := by
  have hT9 := hT
  obtain ⟨t1, t2, t3⟩ := hT
  refine am_spec (plainFor_of_name (by decide +kernel)) (Nat.le_of_ble_eq_true rfl) (L := [some (.ref 163), some (.int (iZ p))]) rfl (fun X C T => ?_)
  refine am_iload_n (q := 1) C dX8_byteAt_0 rfl rfl ?_
  refine am_ifZ_lt (q := 4) (tgt := 27) C dX8_byteAt_1 (by decide) rfl hp (fun c1 => ?_) (fun c1 => ?_)
  · refine am_iconst (q := 28) (v := iZ (-1)) C dX8_byteAt_27 rfl rfl ?_
    refine am_iret C T dX8_byteAt_28 rfl (Nat.le_refl _) (Nat.le_refl _) ⟨_, rfl, ?_⟩
    refine ⟨congrArg iZ ?_, rfl⟩
    first | (rw [if_neg (by omega)]) | (rw [if_pos (by omega)])
  · refine am_iload_n (q := 5) C dX8_byteAt_4 rfl rfl ?_
    refine am_aload_n (q := 6) C dX8_byteAt_5 rfl rfl ?_
    refine am_getIe (q := 9) (v := (iZ (n : Int))) C fb_X8_15 dX8_byteAt_6 rfl rfl kk_163 (show 163 < 215 by decide) t1 ?_
    refine am_icmpZ_ge (q := 12) (tgt := 27) C dX8_byteAt_9 (by decide) rfl hp ⟨by omega, by omega⟩ (fun c2 => ?_) (fun c2 => ?_)
    · refine am_iconst (q := 28) (v := iZ (-1)) C dX8_byteAt_27 rfl rfl ?_
      refine am_iret C T dX8_byteAt_28 rfl (Nat.le_refl _) (Nat.le_refl _) ⟨_, rfl, ?_⟩
      refine ⟨congrArg iZ ?_, rfl⟩
      first | (rw [if_neg (by omega)]) | (rw [if_pos (by omega)])
    · refine am_iload_n (q := 13) C dX8_byteAt_12 rfl rfl ?_
      refine am_bipush (q := 15) (v := iZ 100) C dX8_byteAt_13 rfl rfl ?_
      refine am_icmpZ_ge (q := 18) (tgt := 27) C dX8_byteAt_15 (by decide) rfl hp ⟨by omega, by omega⟩ (fun c3 => ?_) (fun c3 => ?_)
      · refine am_iconst (q := 28) (v := iZ (-1)) C dX8_byteAt_27 rfl rfl ?_
        refine am_iret C T dX8_byteAt_28 rfl (Nat.le_refl _) (Nat.le_refl _) ⟨_, rfl, ?_⟩
        refine ⟨congrArg iZ ?_, rfl⟩
        first | (rw [if_neg (by omega)]) | (rw [if_pos (by omega)])
      · refine am_aload_n (q := 19) C dX8_byteAt_18 rfl rfl ?_
        refine am_getR (q := 22) C fb_X8_9 dX8_byteAt_19 rfl rfl kk_163 (show 163 < 215 by decide) kr_163_0 ?_
        refine am_iload_n (q := 23) C dX8_byteAt_22 rfl rfl ?_
        refine am_baloadZ (q := 24) p.toNat C dX8_byteAt_23 rfl kk_164 (show 164 < 215 by decide) (by omega) (by omega) (by decide) ?_
        refine am_intE (y := (iZ (sg (b p.toNat)))) (t3 p.toNat (by omega)).1 ?_
        refine am_goto (q := 28) C dX8_byteAt_24 (by decide) ?_
        refine am_iret C T dX8_byteAt_28 rfl (Nat.le_refl _) (Nat.le_refl _) ⟨_, rfl, ?_⟩
        refine ⟨congrArg iZ ?_, rfl⟩
        first | (rw [if_neg (by omega)]) | (rw [if_pos (by omega)])
set_option maxRecDepth 4000 in
theorem sp_X8_sortAt {n : Nat} {b : Nat → Nat} (hT : atT I n b) {p : Nat} (hp : p ≤ 100) : am_S G mX8_sortAt 2 0 0 [.ref 163, .int (iZ (p : Int))] (215, kK, kR, I, J) (am_fi (iZ (srt n b p : Int)) (215, kK, kR, I, J)) := by
  have hT9 := hT
  obtain ⟨t1, t2, t3⟩ := hT
  refine am_spec (plainFor_of_name (by decide +kernel)) (Nat.le_of_ble_eq_true rfl) (L := [some (.ref 163), some (.int (iZ (p : Int))), none]) rfl (fun X C T => ?_)
  refine am_iload_n (q := 1) C dX8_sortAt_0 rfl rfl ?_
  refine am_aload_n (q := 2) C dX8_sortAt_1 rfl rfl ?_
  refine am_getIe (q := 5) (v := (iZ (n : Int))) C fb_X8_15 dX8_sortAt_2 rfl rfl kk_163 (show 163 < 215 by decide) t1 ?_
  refine am_icmpZ_lt (q := 8) (tgt := 10) C dX8_sortAt_5 (by decide) rfl ⟨by omega, by omega⟩ ⟨by omega, by omega⟩ (fun c1 => ?_) (fun c1 => ?_)
  · refine am_aload_n (q := 11) C dX8_sortAt_10 rfl rfl ?_
    refine am_iload_n (q := 12) C dX8_sortAt_11 rfl rfl ?_
    refine am_callV (q := 15) (As := [.int (iZ (p : Int))]) (rest := []) C mb_X8_byteAt im_X8_byteAt se_X8_byteAt ml_X8_29 cb_8 kk_163 (show 163 < 215 by decide) dX8_sortAt_12 rfl (sp_X8_byteAt hT9 (p := (p : Int)) ⟨by omega, by omega⟩) rfl rfl ⟨by decide, by decide⟩ ⟨Nat.le_refl _, Nat.le_refl _⟩ (Nat.le_of_ble_eq_true rfl) (am_rie ?_)
    refine am_intE (show _ = iZ (sg (b p)) from congrArg iZ (by rw [if_pos (by omega)]; rfl)) ?_
    have hb := sg_b (t3 p (by omega)).2
    refine am_istore_n (q := 16) (L' := [some (.ref 163), some (.int (iZ (p : Int))), some (.int (iZ (sg (b p))))]) C dX8_sortAt_15 rfl (by decide) rfl rfl ?_
    refine am_iload_n (q := 17) C dX8_sortAt_16 rfl rfl ?_
    refine am_bipush (q := 19) (v := iZ 32) C dX8_sortAt_17 rfl rfl ?_
    refine am_icmpZ_ne (q := 22) (tgt := 24) C dX8_sortAt_19 (by decide) rfl ⟨by omega, by omega⟩ ⟨by omega, by omega⟩ (fun c2 => ?_) (fun c2 => ?_)
    · refine am_iload_n (q := 25) C dX8_sortAt_24 rfl rfl ?_
      refine am_bipush (q := 27) (v := iZ 97) C dX8_sortAt_25 rfl rfl ?_
      refine am_icmpZ_lt (q := 30) (tgt := 38) C dX8_sortAt_27 (by decide) rfl ⟨by omega, by omega⟩ ⟨by omega, by omega⟩ (fun c3 => ?_) (fun c3 => ?_)
      · refine am_iload_n (q := 39) C dX8_sortAt_38 rfl rfl ?_
        refine am_bipush (q := 41) (v := iZ 48) C dX8_sortAt_39 rfl rfl ?_
        refine am_icmpZ_lt (q := 44) (tgt := 54) C dX8_sortAt_41 (by decide) rfl ⟨by omega, by omega⟩ ⟨by omega, by omega⟩ (fun c4 => ?_) (fun c4 => ?_)
        · refine am_iconst (q := 55) (v := iZ 3) C dX8_sortAt_54 rfl rfl ?_
          refine am_iret C T dX8_sortAt_55 rfl (Nat.le_refl _) (Nat.le_refl _) ⟨_, rfl, ?_⟩
          refine ⟨congrArg iZ ?_, rfl⟩
          unfold srt srB
          rw [if_pos (by omega)]
          rw [if_neg (by omega), if_neg (by omega), if_neg (by omega)]; rfl
        · refine am_iload_n (q := 45) C dX8_sortAt_44 rfl rfl ?_
          refine am_bipush (q := 47) (v := iZ 57) C dX8_sortAt_45 rfl rfl ?_
          refine am_icmpZ_gt (q := 50) (tgt := 54) C dX8_sortAt_47 (by decide) rfl ⟨by omega, by omega⟩ ⟨by omega, by omega⟩ (fun c5 => ?_) (fun c5 => ?_)
          · refine am_iconst (q := 55) (v := iZ 3) C dX8_sortAt_54 rfl rfl ?_
            refine am_iret C T dX8_sortAt_55 rfl (Nat.le_refl _) (Nat.le_refl _) ⟨_, rfl, ?_⟩
            refine ⟨congrArg iZ ?_, rfl⟩
            unfold srt srB
            rw [if_pos (by omega)]
            rw [if_neg (by omega), if_neg (by omega), if_neg (by omega)]; rfl
          · refine am_iconst (q := 51) (v := iZ 2) C dX8_sortAt_50 rfl rfl ?_
            refine am_goto (q := 55) C dX8_sortAt_51 (by decide) ?_
            refine am_iret C T dX8_sortAt_55 rfl (Nat.le_refl _) (Nat.le_refl _) ⟨_, rfl, ?_⟩
            refine ⟨congrArg iZ ?_, rfl⟩
            unfold srt srB
            rw [if_pos (by omega)]
            rw [if_neg (by omega), if_neg (by omega), if_pos (by omega)]; rfl
      · refine am_iload_n (q := 31) C dX8_sortAt_30 rfl rfl ?_
        refine am_bipush (q := 33) (v := iZ 122) C dX8_sortAt_31 rfl rfl ?_
        refine am_icmpZ_gt (q := 36) (tgt := 38) C dX8_sortAt_33 (by decide) rfl ⟨by omega, by omega⟩ ⟨by omega, by omega⟩ (fun c6 => ?_) (fun c6 => ?_)
        · refine am_iload_n (q := 39) C dX8_sortAt_38 rfl rfl ?_
          refine am_bipush (q := 41) (v := iZ 48) C dX8_sortAt_39 rfl rfl ?_
          refine am_icmpZ_lt (q := 44) (tgt := 54) C dX8_sortAt_41 (by decide) rfl ⟨by omega, by omega⟩ ⟨by omega, by omega⟩ (fun c7 => ?_) (fun c7 => ?_)
          · refine am_iconst (q := 55) (v := iZ 3) C dX8_sortAt_54 rfl rfl ?_
            refine am_iret C T dX8_sortAt_55 rfl (Nat.le_refl _) (Nat.le_refl _) ⟨_, rfl, ?_⟩
            refine ⟨congrArg iZ ?_, rfl⟩
            unfold srt srB
            rw [if_pos (by omega)]
            rw [if_neg (by omega), if_neg (by omega), if_neg (by omega)]; rfl
          · refine am_iload_n (q := 45) C dX8_sortAt_44 rfl rfl ?_
            refine am_bipush (q := 47) (v := iZ 57) C dX8_sortAt_45 rfl rfl ?_
            refine am_icmpZ_gt (q := 50) (tgt := 54) C dX8_sortAt_47 (by decide) rfl ⟨by omega, by omega⟩ ⟨by omega, by omega⟩ (fun c8 => ?_) (fun c8 => ?_)
            · refine am_iconst (q := 55) (v := iZ 3) C dX8_sortAt_54 rfl rfl ?_
              refine am_iret C T dX8_sortAt_55 rfl (Nat.le_refl _) (Nat.le_refl _) ⟨_, rfl, ?_⟩
              refine ⟨congrArg iZ ?_, rfl⟩
              unfold srt srB
              rw [if_pos (by omega)]
              rw [if_neg (by omega), if_neg (by omega), if_neg (by omega)]; rfl
            · refine am_iconst (q := 51) (v := iZ 2) C dX8_sortAt_50 rfl rfl ?_
              refine am_goto (q := 55) C dX8_sortAt_51 (by decide) ?_
              refine am_iret C T dX8_sortAt_55 rfl (Nat.le_refl _) (Nat.le_refl _) ⟨_, rfl, ?_⟩
              refine ⟨congrArg iZ ?_, rfl⟩
              unfold srt srB
              rw [if_pos (by omega)]
              rw [if_neg (by omega), if_neg (by omega), if_pos (by omega)]; rfl
        · refine am_iconst (q := 37) (v := iZ 1) C dX8_sortAt_36 rfl rfl ?_
          refine am_iret C T dX8_sortAt_37 rfl (Nat.le_refl _) (Nat.le_refl _) ⟨_, rfl, ?_⟩
          refine ⟨congrArg iZ ?_, rfl⟩
          unfold srt srB
          rw [if_pos (by omega)]
          rw [if_neg (by omega), if_pos (by omega)]; rfl
    · refine am_iconst (q := 23) (v := iZ 4) C dX8_sortAt_22 rfl rfl ?_
      refine am_iret C T dX8_sortAt_23 rfl (Nat.le_refl _) (Nat.le_refl _) ⟨_, rfl, ?_⟩
      refine ⟨congrArg iZ ?_, rfl⟩
      unfold srt srB
      rw [if_pos (by omega)]
      rw [if_pos (by omega)]; rfl
  · refine am_iconst (q := 9) (v := iZ 0) C dX8_sortAt_8 rfl rfl ?_
    refine am_iret C T dX8_sortAt_9 rfl (Nat.le_refl _) (Nat.le_refl _) ⟨_, rfl, ?_⟩
    refine ⟨congrArg iZ ?_, rfl⟩
    unfold srt srB
    rw [if_neg (by omega)]; rfl
set_option maxRecDepth 4000 in
theorem sp_X8_nextSort {n : Nat} {b : Nat → Nat} (hT : atT I n b) {e : Nat} (he : e ≤ n) (h3 : I 163 3 = iZ (e : Int)) : am_S G mX8_nextSort 3 0 0 [.ref 163] (215, kK, kR, I, J) (am_qi (fun r w' => r = iZ (srt n b (tkA n b e) : Int) ∧ ∃ I' : Nat → Nat → Int32, w' = (215, kK, kR, I', J) ∧ I' 163 2 = iZ (tkA n b e : Int) ∧ I' 163 3 = iZ (tkZ n b (tkA n b e) : Int) ∧ atT I' n b ∧ ∀ h, h ≠ 163 → I' h = I h)) := by
  have hT9 := hT
  obtain ⟨t1, t2, t3⟩ := hT
  refine am_spec (plainFor_of_name (by decide +kernel)) (Nat.le_of_ble_eq_true rfl) (L := [some (.ref 163), none]) rfl (fun X C T => ?_)
  have mid : ∀ (p : Nat) (I1 : Nat → Nat → Int32), p ≤ n → p = tkA n b e → I1 163 2 = iZ (p : Int) → atT I1 n b → (∀ h, h ≠ 163 → I1 h = I h) → am_A G mX8_nextSort X (am_rm 3 0 0) 44 [some (.ref 163), none] [] (215, kK, kR, I1, J) 0 0 := by
    intro p I1 hp hpe hp2 hT1 hI
    rw [← hpe] at T
    obtain ⟨k, hk⟩ : ∃ k, k = srt n b p := ⟨_, rfl⟩
    rw [← hk] at T
    have hk4 := srt_le n b p
    have hk0 := @srt_0 n b p
    have lp2 : ∀ (fuel : Nat) (q r : Nat) (I1 : Nat → Nat → Int32), (q + r = n) → (tkE n b k r q = tkZ n b p) → (I1 163 2 = iZ (p : Int)) → (I1 163 3 = iZ (q : Int)) → (atT I1 n b) → (∀ h, h ≠ 163 → I1 h = I h) → (r) < fuel → am_A G mX8_nextSort X (am_rm 3 0 0) 74 [some (.ref 163), some (.int (iZ (k : Int)))] [] (215, kK, kR, I1, J) 0 0 := by
      intro fuel
      induction fuel with
      | zero => intro q r I1 hq hr hp2 hp3 hT1 hI hf; exact absurd hf (Nat.not_lt_zero _)
      | succ fuel ih =>
        intro q r I1 hq hr hp2 hp3 hT1 hI hf
        refine am_aload_n (q := 75) C dX8_nextSort_74 rfl rfl ?_
        refine am_getIe (q := 78) (v := (iZ (q : Int))) C fb_X8_22 dX8_nextSort_75 rfl rfl kk_163 (show 163 < 215 by decide) hp3 ?_
        refine am_aload_n (q := 79) C dX8_nextSort_78 rfl rfl ?_
        refine am_getIe (q := 82) (v := (iZ (n : Int))) C fb_X8_15 dX8_nextSort_79 rfl rfl kk_163 (show 163 < 215 by decide) hT1.1 ?_
        refine am_icmpZ_ge (q := 85) (tgt := 120) C dX8_nextSort_82 (by decide) rfl ⟨by omega, by omega⟩ ⟨by omega, by omega⟩ (fun c1 => ?_) (fun c1 => ?_)
        · refine am_iload_n (q := 121) C dX8_nextSort_120 rfl rfl ?_
          refine am_iret C T dX8_nextSort_121 rfl (Nat.le_refl _) (Nat.le_refl _) ⟨_, rfl, ?_⟩
          have hq0 : tkE n b k r q = q := by
            rcases r with _ | r
            · rfl
            · exact if_neg (by omega)
          rw [hq0] at hr
          exact ⟨rfl, _, rfl, hp2, by rw [hp3, hr], hT1, hI⟩
        · refine am_iload_n (q := 86) C dX8_nextSort_85 rfl rfl ?_
          refine am_iconst (q := 87) (v := iZ 1) C dX8_nextSort_86 rfl rfl ?_
          refine am_icmpZ_eq (q := 90) (tgt := 95) C dX8_nextSort_87 (by decide) rfl ⟨by omega, by omega⟩ ⟨by omega, by omega⟩ (fun c2 => ?_) (fun c2 => ?_)
          · refine am_aload_n (q := 96) C dX8_nextSort_95 rfl rfl ?_
            refine am_aload_n (q := 97) C dX8_nextSort_96 rfl rfl ?_
            refine am_getIe (q := 100) (v := (iZ (q : Int))) C fb_X8_22 dX8_nextSort_97 rfl rfl kk_163 (show 163 < 215 by decide) hp3 ?_
            refine am_callV (q := 103) (As := [.int (iZ (q : Int))]) (rest := []) C mb_X8_sortAt im_X8_sortAt se_X8_sortAt ml_X8_25 cb_8 kk_163 (show 163 < 215 by decide) dX8_nextSort_100 rfl (sp_X8_sortAt hT1 (p := q) (by omega)) rfl rfl ⟨by decide, by decide⟩ ⟨Nat.le_refl _, Nat.le_refl _⟩ (Nat.le_of_ble_eq_true rfl) (am_rie ?_)
            have hsl := srt_le n b q
            refine am_iload_n (q := 104) C dX8_nextSort_103 rfl rfl ?_
            refine am_icmpZ_ne (q := 107) (tgt := 120) C dX8_nextSort_104 (by decide) rfl ⟨by omega, by omega⟩ ⟨by omega, by omega⟩ (fun c3 => ?_) (fun c3 => ?_)
            · refine am_iload_n (q := 121) C dX8_nextSort_120 rfl rfl ?_
              refine am_iret C T dX8_nextSort_121 rfl (Nat.le_refl _) (Nat.le_refl _) ⟨_, rfl, ?_⟩
              have hq0 : tkE n b k r q = q := by
                rcases r with _ | r
                · rfl
                · exact if_neg (by omega)
              rw [hq0] at hr
              exact ⟨rfl, _, rfl, hp2, by rw [hp3, hr], hT1, hI⟩
            · refine am_aload_n (q := 108) C dX8_nextSort_107 rfl rfl ?_
              refine am_dup (q := 109) C dX8_nextSort_108 rfl rfl ?_
              refine am_getIe (q := 112) (v := (iZ (q : Int))) C fb_X8_22 dX8_nextSort_109 rfl rfl kk_163 (show 163 < 215 by decide) hp3 ?_
              refine am_iconst (q := 113) (v := iZ 1) C dX8_nextSort_112 rfl rfl ?_
              refine am_iaddZ (q := 114) C dX8_nextSort_113 rfl ?_
              refine am_putI (q := 117) C fw_X8_22 dX8_nextSort_114 rfl rfl kk_163 (show 163 < 215 by decide) ?_
              refine am_goto (q := 74) C dX8_nextSort_117 (by decide) ?_
              obtain ⟨r1, rfl⟩ : ∃ r1, r = r1 + 1 := ⟨r - 1, by omega⟩
              refine ih (q + 1) r1 _ (by omega) ?_ (by rw [am_up_ne _ _ _ _ (Or.inr (by decide))]; exact hp2) (by rw [am_up_eq]; rfl) (hT1.on (am_up_ne _ _ _ _ (Or.inr (by decide))) (am_up_row _ _ _ _ (by decide))) (fun h hh => by rw [am_up_row _ _ _ _ hh]; exact hI h hh) (by omega)
              rw [← hr]
              exact (if_pos (by omega)).symm
          · refine am_iload_n (q := 91) C dX8_nextSort_90 rfl rfl ?_
            refine am_iconst (q := 92) (v := iZ 2) C dX8_nextSort_91 rfl rfl ?_
            refine am_icmpZ_ne (q := 95) (tgt := 120) C dX8_nextSort_92 (by decide) rfl ⟨by omega, by omega⟩ ⟨by omega, by omega⟩ (fun c4 => ?_) (fun c4 => ?_)
            · refine am_iload_n (q := 121) C dX8_nextSort_120 rfl rfl ?_
              refine am_iret C T dX8_nextSort_121 rfl (Nat.le_refl _) (Nat.le_refl _) ⟨_, rfl, ?_⟩
              have hq0 : tkE n b k r q = q := by
                rcases r with _ | r
                · rfl
                · exact if_neg (by omega)
              rw [hq0] at hr
              exact ⟨rfl, _, rfl, hp2, by rw [hp3, hr], hT1, hI⟩
            · refine am_aload_n (q := 96) C dX8_nextSort_95 rfl rfl ?_
              refine am_aload_n (q := 97) C dX8_nextSort_96 rfl rfl ?_
              refine am_getIe (q := 100) (v := (iZ (q : Int))) C fb_X8_22 dX8_nextSort_97 rfl rfl kk_163 (show 163 < 215 by decide) hp3 ?_
              refine am_callV (q := 103) (As := [.int (iZ (q : Int))]) (rest := []) C mb_X8_sortAt im_X8_sortAt se_X8_sortAt ml_X8_25 cb_8 kk_163 (show 163 < 215 by decide) dX8_nextSort_100 rfl (sp_X8_sortAt hT1 (p := q) (by omega)) rfl rfl ⟨by decide, by decide⟩ ⟨Nat.le_refl _, Nat.le_refl _⟩ (Nat.le_of_ble_eq_true rfl) (am_rie ?_)
              have hsl := srt_le n b q
              refine am_iload_n (q := 104) C dX8_nextSort_103 rfl rfl ?_
              refine am_icmpZ_ne (q := 107) (tgt := 120) C dX8_nextSort_104 (by decide) rfl ⟨by omega, by omega⟩ ⟨by omega, by omega⟩ (fun c5 => ?_) (fun c5 => ?_)
              · refine am_iload_n (q := 121) C dX8_nextSort_120 rfl rfl ?_
                refine am_iret C T dX8_nextSort_121 rfl (Nat.le_refl _) (Nat.le_refl _) ⟨_, rfl, ?_⟩
                have hq0 : tkE n b k r q = q := by
                  rcases r with _ | r
                  · rfl
                  · exact if_neg (by omega)
                rw [hq0] at hr
                exact ⟨rfl, _, rfl, hp2, by rw [hp3, hr], hT1, hI⟩
              · refine am_aload_n (q := 108) C dX8_nextSort_107 rfl rfl ?_
                refine am_dup (q := 109) C dX8_nextSort_108 rfl rfl ?_
                refine am_getIe (q := 112) (v := (iZ (q : Int))) C fb_X8_22 dX8_nextSort_109 rfl rfl kk_163 (show 163 < 215 by decide) hp3 ?_
                refine am_iconst (q := 113) (v := iZ 1) C dX8_nextSort_112 rfl rfl ?_
                refine am_iaddZ (q := 114) C dX8_nextSort_113 rfl ?_
                refine am_putI (q := 117) C fw_X8_22 dX8_nextSort_114 rfl rfl kk_163 (show 163 < 215 by decide) ?_
                refine am_goto (q := 74) C dX8_nextSort_117 (by decide) ?_
                obtain ⟨r1, rfl⟩ : ∃ r1, r = r1 + 1 := ⟨r - 1, by omega⟩
                refine ih (q + 1) r1 _ (by omega) ?_ (by rw [am_up_ne _ _ _ _ (Or.inr (by decide))]; exact hp2) (by rw [am_up_eq]; rfl) (hT1.on (am_up_ne _ _ _ _ (Or.inr (by decide))) (am_up_row _ _ _ _ (by decide))) (fun h hh => by rw [am_up_row _ _ _ _ hh]; exact hI h hh) (by omega)
                rw [← hr]
                exact (if_pos (by omega)).symm
    refine am_aload_n (q := 45) C dX8_nextSort_44 rfl rfl ?_
    refine am_aload_n (q := 46) C dX8_nextSort_45 rfl rfl ?_
    refine am_getIe (q := 49) (v := (iZ (p : Int))) C fb_X8_19 dX8_nextSort_46 rfl rfl kk_163 (show 163 < 215 by decide) hp2 ?_
    refine am_callV (q := 52) (As := [.int (iZ (p : Int))]) (rest := []) C mb_X8_sortAt im_X8_sortAt se_X8_sortAt ml_X8_25 cb_8 kk_163 (show 163 < 215 by decide) dX8_nextSort_49 rfl (sp_X8_sortAt hT1 (p := p) (by omega)) rfl rfl ⟨by decide, by decide⟩ ⟨Nat.le_refl _, Nat.le_refl _⟩ (Nat.le_of_ble_eq_true rfl) (am_rie ?_)
    refine am_intE (show _ = iZ (k : Int) by rw [hk]) ?_
    refine am_istore_n (q := 53) (L' := [some (.ref 163), some (.int (iZ (k : Int)))]) C dX8_nextSort_52 rfl (by decide) rfl rfl ?_
    refine am_aload_n (q := 54) C dX8_nextSort_53 rfl rfl ?_
    refine am_iload_n (q := 55) C dX8_nextSort_54 rfl rfl ?_
    refine am_ifZ_ne (q := 58) (tgt := 65) C dX8_nextSort_55 (by decide) rfl ⟨by omega, by omega⟩ (fun c6 => ?_) (fun c6 => ?_)
    · refine am_aload_n (q := 66) C dX8_nextSort_65 rfl rfl ?_
      refine am_getIe (q := 69) (v := (iZ (p : Int))) C fb_X8_19 dX8_nextSort_66 rfl rfl kk_163 (show 163 < 215 by decide) hp2 ?_
      refine am_iconst (q := 70) (v := iZ 1) C dX8_nextSort_69 rfl rfl ?_
      refine am_iaddZ (q := 71) C dX8_nextSort_70 rfl ?_
      refine am_putI (q := 74) C fw_X8_22 dX8_nextSort_71 rfl rfl kk_163 (show 163 < 215 by decide) ?_
      refine lp2 (n + 1) (p + 1) (n - (p + 1)) _ (by omega) ?_ (by rw [am_up_ne _ _ _ _ (Or.inr (by decide))]; exact hp2) (by rw [am_up_eq]; rfl) (hT1.on (am_up_ne _ _ _ _ (Or.inr (by decide))) (am_up_row _ _ _ _ (by decide))) (fun h hh => by rw [am_up_row _ _ _ _ hh]; exact hI h hh) (by omega)
      unfold tkZ
      rw [if_neg (by omega), ← hk]
    · refine am_aload_n (q := 59) C dX8_nextSort_58 rfl rfl ?_
      refine am_getIe (q := 62) (v := (iZ (p : Int))) C fb_X8_19 dX8_nextSort_59 rfl rfl kk_163 (show 163 < 215 by decide) hp2 ?_
      refine am_goto (q := 71) C dX8_nextSort_62 (by decide) ?_
      refine am_putI (q := 74) C fw_X8_22 dX8_nextSort_71 rfl rfl kk_163 (show 163 < 215 by decide) ?_
      refine lp2 (n + 1) p (n - p) _ (by omega) ?_ (by rw [am_up_ne _ _ _ _ (Or.inr (by decide))]; exact hp2) (am_up_eq _ _ _ _) (hT1.on (am_up_ne _ _ _ _ (Or.inr (by decide))) (am_up_row _ _ _ _ (by decide))) (fun h hh => by rw [am_up_row _ _ _ _ hh]; exact hI h hh) (by omega)
      unfold tkZ
      rw [if_pos (by omega), show n - p = 0 by omega]; rfl
  have lp1 : ∀ (fuel : Nat) (p r : Nat) (I1 : Nat → Nat → Int32), (p + r = n) → (tkS n b r p = tkA n b e) → (I1 163 2 = iZ (p : Int)) → (atT I1 n b) → (∀ h, h ≠ 163 → I1 h = I h) → (r) < fuel → am_A G mX8_nextSort X (am_rm 3 0 0) 8 [some (.ref 163), none] [] (215, kK, kR, I1, J) 0 0 := by
    intro fuel
    induction fuel with
    | zero => intro p r I1 hq hr hp2 hT1 hI hf; exact absurd hf (Nat.not_lt_zero _)
    | succ fuel ih =>
      intro p r I1 hq hr hp2 hT1 hI hf
      refine am_aload_n (q := 9) C dX8_nextSort_8 rfl rfl ?_
      refine am_getIe (q := 12) (v := (iZ (p : Int))) C fb_X8_19 dX8_nextSort_9 rfl rfl kk_163 (show 163 < 215 by decide) hp2 ?_
      refine am_aload_n (q := 13) C dX8_nextSort_12 rfl rfl ?_
      refine am_getIe (q := 16) (v := (iZ (n : Int))) C fb_X8_15 dX8_nextSort_13 rfl rfl kk_163 (show 163 < 215 by decide) hT1.1 ?_
      refine am_icmpZ_ge (q := 19) (tgt := 44) C dX8_nextSort_16 (by decide) rfl ⟨by omega, by omega⟩ ⟨by omega, by omega⟩ (fun c7 => ?_) (fun c7 => ?_)
      · refine mid p I1 (by omega) ?_ hp2 hT1 hI
        rw [← hr]
        rcases r with _ | r
        · rfl
        · exact (if_neg (by omega)).symm
      · refine am_aload_n (q := 20) C dX8_nextSort_19 rfl rfl ?_
        refine am_aload_n (q := 21) C dX8_nextSort_20 rfl rfl ?_
        refine am_getIe (q := 24) (v := (iZ (p : Int))) C fb_X8_19 dX8_nextSort_21 rfl rfl kk_163 (show 163 < 215 by decide) hp2 ?_
        refine am_callV (q := 27) (As := [.int (iZ (p : Int))]) (rest := []) C mb_X8_sortAt im_X8_sortAt se_X8_sortAt ml_X8_25 cb_8 kk_163 (show 163 < 215 by decide) dX8_nextSort_24 rfl (sp_X8_sortAt hT1 (p := p) (by omega)) rfl rfl ⟨by decide, by decide⟩ ⟨Nat.le_refl _, Nat.le_refl _⟩ (Nat.le_of_ble_eq_true rfl) (am_rie ?_)
        have hsl := srt_le n b p
        refine am_iconst (q := 28) (v := iZ 4) C dX8_nextSort_27 rfl rfl ?_
        refine am_icmpZ_ne (q := 31) (tgt := 44) C dX8_nextSort_28 (by decide) rfl ⟨by omega, by omega⟩ ⟨by omega, by omega⟩ (fun c8 => ?_) (fun c8 => ?_)
        · refine mid p I1 (by omega) ?_ hp2 hT1 hI
          rw [← hr]
          rcases r with _ | r
          · rfl
          · exact (if_neg (by omega)).symm
        · refine am_aload_n (q := 32) C dX8_nextSort_31 rfl rfl ?_
          refine am_dup (q := 33) C dX8_nextSort_32 rfl rfl ?_
          refine am_getIe (q := 36) (v := (iZ (p : Int))) C fb_X8_19 dX8_nextSort_33 rfl rfl kk_163 (show 163 < 215 by decide) hp2 ?_
          refine am_iconst (q := 37) (v := iZ 1) C dX8_nextSort_36 rfl rfl ?_
          refine am_iaddZ (q := 38) C dX8_nextSort_37 rfl ?_
          refine am_putI (q := 41) C fw_X8_19 dX8_nextSort_38 rfl rfl kk_163 (show 163 < 215 by decide) ?_
          refine am_goto (q := 8) C dX8_nextSort_41 (by decide) ?_
          obtain ⟨r1, rfl⟩ : ∃ r1, r = r1 + 1 := ⟨r - 1, by omega⟩
          refine ih (p + 1) r1 _ (by omega) ?_ (by rw [am_up_eq]; rfl) (hT1.on (am_up_ne _ _ _ _ (Or.inr (by decide))) (am_up_row _ _ _ _ (by decide))) (fun h hh => by rw [am_up_row _ _ _ _ hh]; exact hI h hh) (by omega)
          rw [← hr]
          exact (if_pos (by omega)).symm
  refine am_aload_n (q := 1) C dX8_nextSort_0 rfl rfl ?_
  refine am_aload_n (q := 2) C dX8_nextSort_1 rfl rfl ?_
  refine am_getIe (q := 5) (v := (iZ (e : Int))) C fb_X8_22 dX8_nextSort_2 rfl rfl kk_163 (show 163 < 215 by decide) h3 ?_
  refine am_putI (q := 8) C fw_X8_19 dX8_nextSort_5 rfl rfl kk_163 (show 163 < 215 by decide) ?_
  exact lp1 (n + 1) e (n - e) _ (by omega) rfl (am_up_eq _ _ _ _) (hT9.on (am_up_ne _ _ _ _ (Or.inr (by decide))) (am_up_row _ _ _ _ (by decide))) (fun h hh => am_up_row _ _ _ _ hh) (by omega)
/-- the number that a token of digits tells -/
def nmV (b : Nat → Nat) : Nat → Nat → Int → Int
  | 0, _, acc => acc
  | k + 1, p, acc => nmV b k (p + 1) (10 * acc + sg (b p) - 48)
set_option maxRecDepth 4000 in
theorem sp_X8_number {n : Nat} {b : Nat → Nat} (hT : atT I n b) {s e : Nat} (hs : s ≤ e) (he : e ≤ n) (h2 : I 163 2 = iZ (s : Int)) (h3 : I 163 3 = iZ (e : Int)) : am_S G mX8_number 2 0 0 [.ref 163] (215, kK, kR, I, J) (am_fi (iZ (if 2 < e - s then -1 else nmV b (e - s) s 0)) (215, kK, kR, I, J)) := by
  have hT9 := hT
  obtain ⟨t1, t2, t3⟩ := hT
  refine am_spec (plainFor_of_name (by decide +kernel)) (Nat.le_of_ble_eq_true rfl) (L := [some (.ref 163), none, none]) rfl (fun X C T => ?_)
  have lp : ∀ (fuel : Nat) (p r : Nat) (acc : Int), (p + r = e) → (¬ 2 < e - s) → (nmV b r p acc = nmV b (e - s) s 0) → (r) < fuel → am_A G mX8_number X (am_rm 2 0 0) 22 [some (.ref 163), some (.int (iZ acc)), some (.int (iZ (p : Int)))] [] (215, kK, kR, I, J) 0 0 := by
    intro fuel
    induction fuel with
    | zero => intro p r acc hp h2e ha hf; exact absurd hf (Nat.not_lt_zero _)
    | succ fuel ih =>
      intro p r acc hp h2e ha hf
      refine am_iload_n (q := 23) C dX8_number_22 rfl rfl ?_
      refine am_aload_n (q := 24) C dX8_number_23 rfl rfl ?_
      refine am_getIe (q := 27) (v := (iZ (e : Int))) C fb_X8_22 dX8_number_24 rfl rfl kk_163 (show 163 < 215 by decide) h3 ?_
      refine am_icmpZ_ge (q := 30) (tgt := 50) C dX8_number_27 (by decide) rfl ⟨by omega, by omega⟩ ⟨by omega, by omega⟩ (fun c1 => ?_) (fun c1 => ?_)
      · refine am_iload_n (q := 51) C dX8_number_50 rfl rfl ?_
        refine am_iret C T dX8_number_51 rfl (Nat.le_refl _) (Nat.le_refl _) ⟨_, rfl, ?_⟩
        refine ⟨congrArg iZ ?_, rfl⟩
        rw [if_neg (by omega), ← ha, show r = 0 by omega]; rfl
      · refine am_bipush (q := 32) (v := iZ 10) C dX8_number_30 rfl rfl ?_
        refine am_iload_n (q := 33) C dX8_number_32 rfl rfl ?_
        refine am_imulZ (q := 34) C dX8_number_33 rfl ?_
        refine am_aload_n (q := 35) C dX8_number_34 rfl rfl ?_
        refine am_iload_n (q := 36) C dX8_number_35 rfl rfl ?_
        refine am_callV (q := 39) (As := [.int (iZ (p : Int))]) (rest := [.int (iZ (10 * acc))]) C mb_X8_byteAt im_X8_byteAt se_X8_byteAt ml_X8_29 cb_8 kk_163 (show 163 < 215 by decide) dX8_number_36 rfl (sp_X8_byteAt hT9 (p := (p : Int)) ⟨by omega, by omega⟩) rfl rfl ⟨by decide, by decide⟩ ⟨Nat.le_refl _, Nat.le_refl _⟩ (Nat.le_of_ble_eq_true rfl) (am_rie ?_)
        refine am_intE (show _ = iZ (sg (b p)) from congrArg iZ (by rw [if_pos (by omega)]; rfl)) ?_
        have hb := sg_b (t3 p (by omega)).2
        refine am_iaddZ (q := 40) C dX8_number_39 rfl ?_
        refine am_bipush (q := 42) (v := iZ 48) C dX8_number_40 rfl rfl ?_
        refine am_isubZ (q := 43) C dX8_number_42 rfl ?_
        refine am_istore_n (q := 44) (L' := [some (.ref 163), some (.int (iZ (10 * acc + (sg (b p)) - 48))), some (.int (iZ (p : Int)))]) C dX8_number_43 rfl (by decide) rfl rfl ?_
        refine am_iincZ (q := 47) (L' := [some (.ref 163), some (.int (iZ (10 * acc + (sg (b p)) - 48))), some (.int (iZ ((p + 1 : Nat) : Int)))]) C dX8_number_44 rfl rfl (by omega) (by decide) rfl rfl ?_
        refine am_goto (q := 22) C dX8_number_47 (by decide) ?_
        obtain ⟨r1, rfl⟩ : ∃ r1, r = r1 + 1 := ⟨r - 1, by omega⟩
        exact ih (p + 1) r1 _ (by omega) h2e ha (by omega)
  refine am_aload_n (q := 1) C dX8_number_0 rfl rfl ?_
  refine am_getIe (q := 4) (v := (iZ (e : Int))) C fb_X8_22 dX8_number_1 rfl rfl kk_163 (show 163 < 215 by decide) h3 ?_
  refine am_aload_n (q := 5) C dX8_number_4 rfl rfl ?_
  refine am_getIe (q := 8) (v := (iZ (s : Int))) C fb_X8_19 dX8_number_5 rfl rfl kk_163 (show 163 < 215 by decide) h2 ?_
  refine am_isubZ (q := 9) C dX8_number_8 rfl ?_
  refine am_iconst (q := 10) (v := iZ 2) C dX8_number_9 rfl rfl ?_
  refine am_icmpZ_le (q := 13) (tgt := 15) C dX8_number_10 (by decide) rfl ⟨by omega, by omega⟩ ⟨by omega, by omega⟩ (fun c2 => ?_) (fun c2 => ?_)
  · refine am_iconst (q := 16) (v := iZ 0) C dX8_number_15 rfl rfl ?_
    refine am_istore_n (q := 17) (L' := [some (.ref 163), some (.int (iZ 0)), none]) C dX8_number_16 rfl (by decide) rfl rfl ?_
    refine am_aload_n (q := 18) C dX8_number_17 rfl rfl ?_
    refine am_getIe (q := 21) (v := (iZ (s : Int))) C fb_X8_19 dX8_number_18 rfl rfl kk_163 (show 163 < 215 by decide) h2 ?_
    refine am_istore_n (q := 22) (L' := [some (.ref 163), some (.int (iZ 0)), some (.int (iZ (s : Int)))]) C dX8_number_21 rfl (by decide) rfl rfl ?_
    exact lp (e + 1) s (e - s) 0 (by omega) (by omega) rfl (by omega)
  · refine am_iconst (q := 14) (v := iZ (-1)) C dX8_number_13 rfl rfl ?_
    refine am_iret C T dX8_number_14 rfl (Nat.le_refl _) (Nat.le_refl _) ⟨_, rfl, ?_⟩
    exact ⟨congrArg iZ (if_pos (by omega)).symm, rfl⟩
