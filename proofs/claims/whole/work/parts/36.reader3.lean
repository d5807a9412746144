variable {G : am_G} {I : Nat → Nat → Int32} {J : Nat → Nat → Int64}
/-- the number of a token, as it is told -/
def tkN (b : Nat → Nat) (s e : Nat) : Int := if 2 < e - s then -1 else nmV b (e - s) s 0
theorem nm_dig {b : Nat → Nat} : ∀ k p acc, (∀ j, p ≤ j → j < p + k → 48 ≤ b j ∧ b j ≤ 57) → 0 ≤ acc → 0 ≤ nmV b k p acc ∧ (k = 1 → nmV b k p acc ≤ 10 * acc + 9) ∧ (k = 2 → nmV b k p acc ≤ 100 * acc + 99) ∧ (k = 0 → nmV b k p acc = acc)
  | 0, p, acc, _, h => ⟨h, fun z => by omega, fun z => by omega, fun _ => rfl⟩
  | k + 1, p, acc, hd, h => by
    have h1 := hd p (by omega) (by omega)
    have h2 : sg (b p) = b p := by unfold sg; rw [if_pos (by omega)]
    have ih := nm_dig k (p + 1) (10 * acc + sg (b p) - 48) (fun j h3 h4 => hd j (by omega) (by omega)) (by omega)
    show 0 ≤ nmV b k (p + 1) _ ∧ (_ → nmV b k (p + 1) _ ≤ _) ∧ (_ → nmV b k (p + 1) _ ≤ _) ∧ _
    refine ⟨ih.1, fun z => ?_, fun z => ?_, fun z => by omega⟩
    · rw [ih.2.2.2 (by omega)]; omega
    · have := ih.2.1 (by omega); omega
theorem srt_dig {n : Nat} {b : Nat → Nat} {p : Nat} (h : srt n b p = 2) : p < n ∧ 48 ≤ b p ∧ b p ≤ 57 := by
  unfold srt srB at h
  split at h
  · split at h
    · omega
    · split at h
      · omega
      · split at h <;> omega
  · omega
theorem tkE_dig {n : Nat} {b : Nat → Nat} : ∀ k p j, p ≤ j → j < tkE n b 2 k p → srt n b j = 2
  | 0, p, j, h1, h2 => by
    have h2 : j < p := h2
    omega
  | k + 1, p, j, h1, h2 => by
    have h2 : j < (if p < n ∧ (2 = 1 ∨ 2 = 2) ∧ srt n b p = 2 then tkE n b 2 k (p + 1) else p) := h2
    split at h2
    · rename_i hc
      by_cases e : j = p
      · rw [e]; exact hc.2.2
      · exact tkE_dig k (p + 1) j (by omega) h2
    · omega
theorem tkN_ok {n : Nat} {b : Nat → Nat} {s : Nat} (h : srt n b s = 2) : -1 ≤ tkN b s (tkZ n b s) ∧ tkN b s (tkZ n b s) ≤ 99 := by
  unfold tkN
  have hz : tkZ n b s = tkE n b 2 (n - (s + 1)) (s + 1) := by unfold tkZ; rw [h, if_neg (by decide)]
  have hd : ∀ j, s ≤ j → j < tkZ n b s → 48 ≤ b j ∧ b j ≤ 57 := fun j h1 h2 => by
    by_cases e : j = s
    · rw [e]; exact (srt_dig h).2
    · rw [hz] at h2
      exact (srt_dig (tkE_dig _ _ j (by omega) h2)).2
  have hn := nm_dig (b := b) (tkZ n b s - s) s 0 (fun j h1 h2 => hd j h1 (by omega)) (by omega)
  split
  · omega
  · generalize nmV b (tkZ n b s - s) s 0 = q at *
    omega
/-- token by token -/
def rGo (n : Nat) (b : Nat → Nat) : Nat → Nat → RS → Int × Nat
  | 0, _, _ => (0, 0)
  | k + 1, e, r =>
    if srt n b (tkA n b e) = 0 then (if r.2.2.2.2.1 = 2 ∧ r.1 = 0 then (-1, rSo r) else ((tkA n b e : Int), 0))
    else if (rTk (spl b (tkA n b e) (tkZ n b (tkA n b e))) (srt n b (tkA n b e)) (tkN b (tkA n b e) (tkZ n b (tkA n b e))) r).1
      then rGo n b k (tkZ n b (tkA n b e)) (rTk (spl b (tkA n b e) (tkZ n b (tkA n b e))) (srt n b (tkA n b e)) (tkN b (tkA n b e) (tkZ n b (tkA n b e))) r).2
      else ((tkA n b e : Int), 0)
/-- where a rule's fault lies, or -1 and its set -/
def rAll (n : Nat) (b : Nat → Nat) (r : RS) : Int × Nat := rGo n b 101 0 (rBeg 0 (rOp 0 r))
theorem tkZ_gt {n : Nat} {b : Nat → Nat} {s : Nat} (h : srt n b s ≠ 0) : s + 1 ≤ tkZ n b s := by
  unfold tkZ
  rw [if_neg h]
  have := mt srt_0.mpr h
  exact (tkE_le (n := n) (b := b) (c := srt n b s) (n - (s + 1)) (s + 1) (by omega)).1
set_option maxRecDepth 4000 in
theorem sp_X6_takes {r : RS} (hR : atR I J r) {n : Nat} {b : Nat → Nat} (hT : atT I n b) {s e : Nat} (hs : s ≤ e) (he : e ≤ n) (h2 : I 163 2 = iZ (s : Int)) (h3 : I 163 3 = iZ (e : Int)) {cc : Nat} (hcc : cc ≤ 4) (hnum : cc = 2 → -1 ≤ tkN b s e ∧ tkN b s e ≤ 99) : am_S G mX6_takes 8 0 0 [.ref 165, .ref 163, .int (iZ (cc : Int))] (215, kK, kR, I, J) (am_qi (fun v w' => v = (if (rTk (spl b s e) cc (tkN b s e) r).1 = true then 1 else 0) ∧ ∃ (I' : Nat → Nat → Int32) (J' : Nat → Nat → Int64), w' = (215, kK, kR, I', J') ∧ atR I' J' (rTk (spl b s e) cc (tkN b s e) r).2 ∧ frR I J I' J')) := by
  have r1 := hR.1
  have r2 := hR.2.1
  have r3 := hR.2.2.1
  have r4 := hR.2.2.2.1
  have r5 := hR.2.2.2.2.1
  have r6 := hR.2.2.2.2.2.1
  refine am_spec (plainFor_of_name (by decide +kernel)) (Nat.le_of_ble_eq_true rfl) (L := [some (.ref 165), some (.ref 163), some (.int (iZ (cc : Int)))]) rfl (fun X C T => ?_)
  refine am_aload_n (q := 1) C dX6_takes_0 rfl rfl ?_
  refine am_getIe (q := 4) (v := (iZ (r.2.2.2.2.1 : Int))) C fb_X6_26 dX6_takes_1 rfl rfl kk_165 (show 165 < 215 by decide) r2 ?_
  refine am_iconst (q := 5) (v := iZ 1) C dX6_takes_4 rfl rfl ?_
  refine am_icmpZ_ne (q := 8) (tgt := 30) C dX6_takes_5 (by decide) rfl ⟨by omega, by omega⟩ ⟨by omega, by omega⟩ (fun c1 => ?_) (fun c1 => ?_)
  · refine am_iload_n (q := 31) C dX6_takes_30 rfl rfl ?_
    refine am_iconst (q := 32) (v := iZ 2) C dX6_takes_31 rfl rfl ?_
    refine am_icmpZ_ne (q := 35) (tgt := 37) C dX6_takes_32 (by decide) rfl ⟨by omega, by omega⟩ ⟨by omega, by omega⟩ (fun c2 => ?_) (fun c2 => ?_)
    · refine am_aload_n (q := 38) C dX6_takes_37 rfl rfl ?_
      refine am_getIe (q := 41) (v := (iZ (r.2.2.2.2.1 : Int))) C fb_X6_26 dX6_takes_38 rfl rfl kk_165 (show 165 < 215 by decide) r2 ?_
      refine am_ifZ_ne (q := 44) (tgt := 52) C dX6_takes_41 (by decide) rfl ⟨by omega, by omega⟩ (fun c3 => ?_) (fun c3 => ?_)
      · refine am_aload_n (q := 53) C dX6_takes_52 rfl rfl ?_
        refine am_aload_n (q := 54) C dX6_takes_53 rfl rfl ?_
        refine am_callV (q := 57) (As := [.ref 163]) (rest := []) C mb_X6_takesJoint im_X6_takesJoint se_X6_takesJoint ml_X6_77 cb_6 kk_165 (show 165 < 215 by decide) dX6_takes_54 rfl (sp_X6_takesJoint hR hT hs he h2 h3) rfl rfl ⟨by decide, by decide⟩ ⟨Nat.le_refl _, Nat.le_refl _⟩ (Nat.le_of_ble_eq_true rfl) (am_ri (fun v' w' hw' => ?_))
        obtain ⟨rfl, I1, J1, rfl, hA1, hf1⟩ := hw'
        refine am_zret C T dX6_takes_57 rfl (ite_nar _) (Nat.le_refl _) (Nat.le_refl _) ⟨_, rfl, ?_⟩
        have ho : rTk (spl b s e) cc (tkN b s e) r = rJnt (spl b s e) r := by unfold rTk; rw [if_neg (by omega), if_neg (by omega), if_neg (by omega)]
        rw [ho]
        exact ⟨rfl, _, _, rfl, hA1, hf1⟩
      · refine am_aload_n (q := 45) C dX6_takes_44 rfl rfl ?_
        refine am_aload_n (q := 46) C dX6_takes_45 rfl rfl ?_
        refine am_callV (q := 49) (As := [.ref 163]) (rest := []) C mb_X6_takesBeginning im_X6_takesBeginning se_X6_takesBeginning ml_X6_73 cb_6 kk_165 (show 165 < 215 by decide) dX6_takes_46 rfl (sp_X6_takesBeginning hR hT hs he h2 h3) rfl rfl ⟨by decide, by decide⟩ ⟨Nat.le_refl _, Nat.le_refl _⟩ (Nat.le_of_ble_eq_true rfl) (am_ri (fun v' w' hw' => ?_))
        obtain ⟨rfl, I1, J1, rfl, hA1, hf1⟩ := hw'
        refine am_goto (q := 57) C dX6_takes_49 (by decide) ?_
        refine am_zret C T dX6_takes_57 rfl (ite_nar _) (Nat.le_refl _) (Nat.le_refl _) ⟨_, rfl, ?_⟩
        have ho : rTk (spl b s e) cc (tkN b s e) r = rBegn (spl b s e) r := by unfold rTk; rw [if_neg (by omega), if_neg (by omega), if_pos (by omega)]
        rw [ho]
        exact ⟨rfl, _, _, rfl, hA1, hf1⟩
    · refine am_iconst (q := 36) (v := iZ 0) C dX6_takes_35 rfl rfl ?_
      refine am_zretB (b := false) C T dX6_takes_36 rfl (Nat.le_refl _) (Nat.le_refl _) rfl ⟨_, rfl, ?_⟩
      have ho : rTk (spl b s e) cc (tkN b s e) r = (false, r) := by
        unfold rTk
        first | (rw [if_pos (by omega), if_neg (by omega)]) | (rw [if_neg (by omega), if_pos (by omega)])
      rw [ho]
      exact ⟨rfl, _, _, rfl, hR, frR_refl⟩
  · refine am_iload_n (q := 9) C dX6_takes_8 rfl rfl ?_
    refine am_iconst (q := 10) (v := iZ 2) C dX6_takes_9 rfl rfl ?_
    refine am_icmpZ_ne (q := 13) (tgt := 28) C dX6_takes_10 (by decide) rfl ⟨by omega, by omega⟩ ⟨by omega, by omega⟩ (fun c4 => ?_) (fun c4 => ?_)
    · refine am_iconst (q := 29) (v := iZ 0) C dX6_takes_28 rfl rfl ?_
      refine am_zretB (b := false) C T dX6_takes_29 rfl (Nat.le_refl _) (Nat.le_refl _) rfl ⟨_, rfl, ?_⟩
      have ho : rTk (spl b s e) cc (tkN b s e) r = (false, r) := by
        unfold rTk
        first | (rw [if_pos (by omega), if_neg (by omega)]) | (rw [if_neg (by omega), if_pos (by omega)])
      rw [ho]
      exact ⟨rfl, _, _, rfl, hR, frR_refl⟩
    · refine am_aload_n (q := 14) C dX6_takes_13 rfl rfl ?_
      refine am_aload_n (q := 15) C dX6_takes_14 rfl rfl ?_
      refine am_callN (q := 18) (As := []) (rest := [.ref 165]) C mb_X8_number im_X8_number se_X8_number mn_X6_66 cb_8 kk_163 (show 163 < 215 by decide) dX6_takes_15 rfl (sp_X8_number hT hs he h2 h3) rfl rfl ⟨by decide, by decide⟩ ⟨Nat.le_refl _, Nat.le_refl _⟩ (Nat.le_of_ble_eq_true rfl) (am_rie ?_)
      refine am_intE (show _ = iZ (tkN b s e) from rfl) ?_
      refine am_callV (q := 21) (As := [.int (iZ (tkN b s e))]) (rest := []) C mb_X6_takesNumber im_X6_takesNumber se_X6_takesNumber ml_X6_69 cb_6 kk_165 (show 165 < 215 by decide) dX6_takes_18 rfl (sp_X6_takesNumber hR (z := tkN b s e) (hnum (by omega))) rfl rfl ⟨by decide, by decide⟩ ⟨Nat.le_refl _, Nat.le_refl _⟩ (Nat.le_of_ble_eq_true rfl) (am_ri (fun v' w' hw' => ?_))
      obtain ⟨rfl, I1, J1, rfl, hA1, hf1⟩ := hw'
      refine am_ifB_eq (q := 24) (tgt := 28) C dX6_takes_21 (by decide) rfl (fun c5 => ?_) (fun c5 => ?_)
      · refine am_iconst (q := 29) (v := iZ 0) C dX6_takes_28 rfl rfl ?_
        refine am_zretB (b := false) C T dX6_takes_29 rfl (Nat.le_refl _) (Nat.le_refl _) rfl ⟨_, rfl, ?_⟩
        have ho : rTk (spl b s e) cc (tkN b s e) r = rNum (tkN b s e) r := by unfold rTk; rw [if_pos (by omega), if_pos (by omega)]
        rw [ho]
        exact ⟨by rw [if_neg (by assumption)]; rfl, _, _, rfl, hA1, hf1⟩
      · refine am_iconst (q := 25) (v := iZ 1) C dX6_takes_24 rfl rfl ?_
        refine am_goto (q := 29) C dX6_takes_25 (by decide) ?_
        refine am_zretB (b := true) C T dX6_takes_29 rfl (Nat.le_refl _) (Nat.le_refl _) rfl ⟨_, rfl, ?_⟩
        have ho : rTk (spl b s e) cc (tkN b s e) r = rNum (tkN b s e) r := by unfold rTk; rw [if_pos (by omega), if_pos (by omega)]
        rw [ho]
        exact ⟨by rw [if_pos (by assumption)]; rfl, _, _, rfl, hA1, hf1⟩
set_option maxRecDepth 4000 in
theorem sp_X6_ends {r : RS} (hR : atR I J r) : am_S G mX6_ends 3 0 0 [.ref 165] (215, kK, kR, I, J) (am_qi (fun v w' => (¬ (r.2.2.2.2.1 = 2 ∧ r.1 = 0) ∧ v = 0 ∧ w' = (215, kK, kR, I, J)) ∨ ((r.2.2.2.2.1 = 2 ∧ r.1 = 0) ∧ v = 1 ∧ w' = (215, kK, kR, I, am_up J 165 6 (lN (rSo r)))))) := by
  have r1 := hR.1
  have r2 := hR.2.1
  have r3 := hR.2.2.1
  have r4 := hR.2.2.2.1
  have r5 := hR.2.2.2.2.1
  have r6 := hR.2.2.2.2.2.1
  refine am_spec (plainFor_of_name (by decide +kernel)) (Nat.le_of_ble_eq_true rfl) (L := [some (.ref 165)]) rfl (fun X C T => ?_)
  refine am_aload_n (q := 1) C dX6_ends_0 rfl rfl ?_
  refine am_getIe (q := 4) (v := (iZ (r.2.2.2.2.1 : Int))) C fb_X6_26 dX6_ends_1 rfl rfl kk_165 (show 165 < 215 by decide) r2 ?_
  refine am_iconst (q := 5) (v := iZ 2) C dX6_ends_4 rfl rfl ?_
  refine am_icmpZ_ne (q := 8) (tgt := 15) C dX6_ends_5 (by decide) rfl ⟨by omega, by omega⟩ ⟨by omega, by omega⟩ (fun c1 => ?_) (fun c1 => ?_)
  · refine am_iconst (q := 16) (v := iZ 0) C dX6_ends_15 rfl rfl ?_
    refine am_zretB (b := false) C T dX6_ends_16 rfl (Nat.le_refl _) (Nat.le_refl _) rfl ⟨_, rfl, ?_⟩
    exact Or.inl ⟨by omega, rfl, rfl⟩
  · refine am_aload_n (q := 9) C dX6_ends_8 rfl rfl ?_
    refine am_getIe (q := 12) (v := (iZ (r.1 : Int))) C fb_X6_22 dX6_ends_9 rfl rfl kk_165 (show 165 < 215 by decide) r1 ?_
    refine am_ifZ_eq (q := 15) (tgt := 17) C dX6_ends_12 (by decide) rfl ⟨by omega, by omega⟩ (fun c2 => ?_) (fun c2 => ?_)
    · refine am_aload_n (q := 18) C dX6_ends_17 rfl rfl ?_
      refine am_aload_n (q := 19) C dX6_ends_18 rfl rfl ?_
      refine am_callV (q := 22) (As := []) (rest := [.ref 165]) C mb_X6_soFar im_X6_soFar se_X6_soFar ml_X6_62 cb_6 kk_165 (show 165 < 215 by decide) dX6_ends_19 rfl (sp_X6_soFar hR) rfl rfl ⟨by decide, by decide⟩ ⟨Nat.le_refl _, Nat.le_refl _⟩ (Nat.le_of_ble_eq_true rfl) (am_rle ?_)
      refine am_putJ (q := 25) C fw_X6_34 dX6_ends_22 rfl rfl kk_165 (show 165 < 215 by decide) ?_
      refine am_iconst (q := 26) (v := iZ 1) C dX6_ends_25 rfl rfl ?_
      refine am_zretB (b := true) C T dX6_ends_26 rfl (Nat.le_refl _) (Nat.le_refl _) rfl ⟨_, rfl, ?_⟩
      exact Or.inr ⟨by omega, rfl, rfl⟩
    · refine am_iconst (q := 16) (v := iZ 0) C dX6_ends_15 rfl rfl ?_
      refine am_zretB (b := false) C T dX6_ends_16 rfl (Nat.le_refl _) (Nat.le_refl _) rfl ⟨_, rfl, ?_⟩
      exact Or.inl ⟨by omega, rfl, rfl⟩
