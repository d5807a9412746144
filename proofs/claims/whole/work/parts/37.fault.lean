variable {G : am_G} {I : Nat → Nat → Int32} {J : Nat → Nat → Int64}
def faQ (n : Nat) (b : Nat → Nat) (a : Int × Nat) (I : Nat → Nat → Int32) (J : Nat → Nat → Int64) (v : Int32) (w' : am_W) : Prop := v = iZ a.1 ∧ ∃ (I' : Nat → Nat → Int32) (J' : Nat → Nat → Int64), w' = (215, kK, kR, I', J') ∧ atT I' n b ∧ (∃ r', atR I' J' r') ∧ (a.1 = -1 → J' 165 6 = lN a.2 ∧ a.2 < 2 ^ 61) ∧ (∀ h, h ≠ 163 → h ≠ 165 → h ≠ 168 → I' h = I h) ∧ ∀ h, h ≠ 165 → h ≠ 166 → h ≠ 167 → J' h = J h
theorem rGo_end {n : Nat} {b : Nat → Nat} {k e : Nat} {r : RS} (h : srt n b (tkA n b e) = 0) (h2 : r.2.2.2.2.1 = 2 ∧ r.1 = 0) : rGo n b (k + 1) e r = (-1, rSo r) := by
  show (if _ then _ else _) = _
  rw [if_pos h, if_pos h2]
theorem rGo_bad {n : Nat} {b : Nat → Nat} {k e : Nat} {r : RS} (h : srt n b (tkA n b e) = 0) (h2 : ¬ (r.2.2.2.2.1 = 2 ∧ r.1 = 0)) : rGo n b (k + 1) e r = ((tkA n b e : Int), 0) := by
  show (if _ then _ else _) = _
  rw [if_pos h, if_neg h2]
theorem rGo_no {n : Nat} {b : Nat → Nat} {k e : Nat} {r : RS} (h : srt n b (tkA n b e) ≠ 0) (h2 : ¬ (rTk (spl b (tkA n b e) (tkZ n b (tkA n b e))) (srt n b (tkA n b e)) (tkN b (tkA n b e) (tkZ n b (tkA n b e))) r).1 = true) : rGo n b (k + 1) e r = ((tkA n b e : Int), 0) := by
  show (if _ then _ else _) = _
  rw [if_neg h, if_neg h2]
theorem rGo_on {n : Nat} {b : Nat → Nat} {k e : Nat} {r : RS} (h : srt n b (tkA n b e) ≠ 0) (h2 : (rTk (spl b (tkA n b e) (tkZ n b (tkA n b e))) (srt n b (tkA n b e)) (tkN b (tkA n b e) (tkZ n b (tkA n b e))) r).1 = true) : rGo n b (k + 1) e r = rGo n b k (tkZ n b (tkA n b e)) (rTk (spl b (tkA n b e) (tkZ n b (tkA n b e))) (srt n b (tkA n b e)) (tkN b (tkA n b e) (tkZ n b (tkA n b e))) r).2 := by
  show (if _ then _ else _) = _
  rw [if_neg h, if_pos h2]
set_option maxRecDepth 4000 in
theorem sp_X6_faultIn {r : RS} (hR : atR I J r) {n : Nat} {b : Nat → Nat} (hT : atT I n b) : am_S G mX6_faultIn 9 0 0 [.ref 165, .ref 163] (215, kK, kR, I, J) (am_qi (faQ n b (rAll n b r) I J)) := by
  have hn100 := hT.2.1
  refine am_spec (plainFor_of_name (by decide +kernel)) (Nat.le_of_ble_eq_true rfl) (L := [some (.ref 165), some (.ref 163), none, none]) rfl (fun X C T => ?_)
  have lp : ∀ (fuel : Nat) (k e f : Nat) (q : RS) (I1 : Nat → Nat → Int32) (J1 : Nat → Nat → Int64), (k ≤ e) → (e ≤ n) → (k + f = 100) → (atT I1 n b) → (I1 163 3 = iZ (e : Int)) → (atR I1 J1 q) → (∀ h, h ≠ 163 → h ≠ 165 → h ≠ 168 → I1 h = I h) → (∀ h, h ≠ 166 → h ≠ 167 → J1 h = J h) → (rGo n b (f + 1) e q = rAll n b r) → (101 - k) < fuel → am_A G mX6_faultIn X (am_rm 9 0 0) 16 [some (.ref 165), some (.ref 163), some (.int (iZ (k : Int))), none] [] (215, kK, kR, I1, J1) 0 0 := by
    intro fuel
    induction fuel with
    | zero => intro k e f q I1 J1 hk he hf hT1 h3 hR1 hI hJ hgo hf; exact absurd hf (Nat.not_lt_zero _)
    | succ fuel ih =>
      intro k e f q I1 J1 hk he hf hT1 h3 hR1 hI hJ hgo hf
      refine am_iload_n (q := 17) C dX6_faultIn_16 rfl rfl ?_
      refine am_bipush (q := 19) (v := iZ 100) C dX6_faultIn_17 rfl rfl ?_
      refine am_icmpZ_gt (q := 22) (tgt := 67) C dX6_faultIn_19 (by decide) rfl ⟨by omega, by omega⟩ ⟨by omega, by omega⟩ (fun c1 => ?_) (fun c1 => ?_)
      · exfalso; omega
      · refine am_aload_n (q := 23) C dX6_faultIn_22 rfl rfl ?_
        refine am_callN (q := 26) (As := []) (rest := []) C mb_X8_nextSort im_X8_nextSort se_X8_nextSort mn_X6_47 cb_8 kk_163 (show 163 < 215 by decide) dX6_faultIn_23 rfl (sp_X8_nextSort hT1 he h3) rfl rfl ⟨by decide, by decide⟩ ⟨Nat.le_refl _, Nat.le_refl _⟩ (Nat.le_of_ble_eq_true rfl) (am_ri (fun v' w' hw' => ?_))
        obtain ⟨rfl, I2, rfl, hs2, hs3, hT2, hI2⟩ := hw'
        have hA := tkA_le (b := b) he
        have hZ := tkZ_le (b := b) hA.2
        have hsl := srt_le n b (tkA n b e)
        have hR2 : atR I2 J1 q := hR1.on (hI2 165 (by decide)) (hI2 168 (by decide)) rfl rfl
        obtain ⟨f2, hf2⟩ : ∃ f2, f + 1 = f2 + 1 := ⟨f, rfl⟩
        refine am_istore_n (q := 27) (L' := [some (.ref 165), some (.ref 163), some (.int (iZ (k : Int))), some (.int (iZ (srt n b (tkA n b e) : Int)))]) C dX6_faultIn_26 rfl (by decide) rfl rfl ?_
        refine am_iload_n (q := 28) C dX6_faultIn_27 rfl rfl ?_
        refine am_ifZ_ne (q := 31) (tgt := 47) C dX6_faultIn_28 (by decide) rfl ⟨by omega, by omega⟩ (fun c2 => ?_) (fun c2 => ?_)
        · refine am_aload_n (q := 48) C dX6_faultIn_47 rfl rfl ?_
          refine am_aload_n (q := 49) C dX6_faultIn_48 rfl rfl ?_
          refine am_iload_n (q := 50) C dX6_faultIn_49 rfl rfl ?_
          refine am_callV (q := 53) (As := [.ref 163, .int (iZ (srt n b (tkA n b e) : Int))]) (rest := []) C mb_X6_takes im_X6_takes se_X6_takes ml_X6_58 cb_6 kk_165 (show 165 < 215 by decide) dX6_faultIn_50 rfl (sp_X6_takes hR2 hT2 hZ.1 hZ.2 hs2 hs3 hsl (fun z => tkN_ok z)) rfl rfl ⟨by decide, by decide⟩ ⟨Nat.le_refl _, Nat.le_refl _⟩ (Nat.le_of_ble_eq_true rfl) (am_ri (fun v' w' hw' => ?_))
          obtain ⟨rfl, I3, J3, rfl, hR3, hf3⟩ := hw'
          refine am_ifB_ne (q := 56) (tgt := 61) C dX6_faultIn_53 (by decide) rfl (fun c3 => ?_) (fun c3 => ?_)
          · refine am_iincZ (q := 64) (L' := [some (.ref 165), some (.ref 163), some (.int (iZ ((k + 1 : Nat) : Int))), some (.int (iZ (srt n b (tkA n b e) : Int)))]) C dX6_faultIn_61 rfl rfl (by omega) (by decide) rfl rfl ?_
            refine am_goto (q := 16) C dX6_faultIn_64 (by decide) ?_
            refine am_wkA (L1 := [some (.ref 165), some (.ref 163), some (.int (iZ ((k + 1 : Nat) : Int))), none]) ⟨rfl, ⟨rfl, ⟨rfl, trivial⟩⟩⟩ ?_
            have hz1 := tkZ_gt (n := n) (b := b) (s := tkA n b e) (by omega)
            obtain ⟨f1, rfl⟩ : ∃ f1, f = f1 + 1 := ⟨f - 1, by omega⟩
            have hg := rGo_on (n := n) (b := b) (e := e) (r := q) (k := f1 + 1) (by omega) (by assumption)
            rw [hg] at hgo
            exact ih (k + 1) (tkZ n b (tkA n b e)) f1 _ I3 J3 (by omega) hZ.2 (by omega) (hT2.on (by rw [hf3.1 163 (by decide) (by decide)]) (hf3.1 164 (by decide) (by decide))) (by rw [hf3.1 163 (by decide) (by decide)]; exact hs3) hR3 (fun h h1 h2 h4 => by rw [hf3.1 h h2 h4, hI2 h h1]; exact hI h h1 h2 h4) (fun h h2 h4 => by rw [hf3.2.2 h h2 h4]; exact hJ h h2 h4) hgo (by omega)
          · refine am_aload_n (q := 57) C dX6_faultIn_56 rfl rfl ?_
            refine am_getIe (q := 60) (v := (iZ (tkA n b e : Int))) C fb_X6_55 dX6_faultIn_57 rfl rfl kk_163 (show 163 < 215 by decide) (by rw [hf3.1 163 (by decide) (by decide)]; exact hs2) ?_
            refine am_iret C T dX6_faultIn_60 rfl (Nat.le_refl _) (Nat.le_refl _) ⟨_, rfl, ?_⟩
            have hg := rGo_no (n := n) (b := b) (e := e) (r := q) (k := f) (by omega) (by assumption)
            rw [hg] at hgo
            rw [← hgo]
            exact ⟨rfl, _, _, rfl, hT2.on (by rw [hf3.1 163 (by decide) (by decide)]) (hf3.1 164 (by decide) (by decide)), ⟨_, hR3⟩, fun z => absurd z (by show ¬ (((tkA n b e : Nat) : Int) = -1); omega), fun h h1 h2 h4 => by rw [hf3.1 h h2 h4, hI2 h h1]; exact hI h h1 h2 h4, fun h h1 h2 h4 => by rw [hf3.2.2 h h2 h4]; exact hJ h h2 h4⟩
        · refine am_aload_n (q := 32) C dX6_faultIn_31 rfl rfl ?_
          refine am_callV (q := 35) (As := []) (rest := []) C mb_X6_ends im_X6_ends se_X6_ends ml_X6_51 cb_6 kk_165 (show 165 < 215 by decide) dX6_faultIn_32 rfl (sp_X6_ends hR2) rfl rfl ⟨by decide, by decide⟩ ⟨Nat.le_refl _, Nat.le_refl _⟩ (Nat.le_of_ble_eq_true rfl) (am_ri (fun v1 w1 hw1 => ?_))
          rcases hw1 with ⟨g1, rfl, rfl⟩ | ⟨g1, rfl, rfl⟩
          · refine am_intE (y := iZ 0) rfl ?_
            refine am_ifZ_eq (q := 38) (tgt := 42) C dX6_faultIn_35 (by decide) rfl ⟨by omega, by omega⟩ (fun c4 => ?_) (fun c4 => ?_)
            · refine am_aload_n (q := 43) C dX6_faultIn_42 rfl rfl ?_
              refine am_getIe (q := 46) (v := (iZ (tkA n b e : Int))) C fb_X6_55 dX6_faultIn_43 rfl rfl kk_163 (show 163 < 215 by decide) hs2 ?_
              refine am_iret C T dX6_faultIn_46 rfl (Nat.le_refl _) (Nat.le_refl _) ⟨_, rfl, ?_⟩
              have hg := rGo_bad (n := n) (b := b) (e := e) (r := q) (k := f) (by omega) g1
              rw [hg] at hgo
              rw [← hgo]
              exact ⟨rfl, _, _, rfl, hT2, ⟨q, hR2⟩, fun z => absurd z (by show ¬ (((tkA n b e : Nat) : Int) = -1); omega), fun h h1 h2 h4 => by rw [hI2 h h1]; exact hI h h1 h2 h4, fun h h1 h2 h4 => hJ h h2 h4⟩
            · exact absurd c4 (by decide)
          · refine am_intE (y := iZ 1) rfl ?_
            refine am_ifZ_eq (q := 38) (tgt := 42) C dX6_faultIn_35 (by decide) rfl ⟨by omega, by omega⟩ (fun c5 => ?_) (fun c5 => ?_)
            · exact absurd c5 (by decide)
            · refine am_iconst (q := 39) (v := iZ (-1)) C dX6_faultIn_38 rfl rfl ?_
              refine am_goto (q := 46) C dX6_faultIn_39 (by decide) ?_
              refine am_iret C T dX6_faultIn_46 rfl (Nat.le_refl _) (Nat.le_refl _) ⟨_, rfl, ?_⟩
              have hg := rGo_end (n := n) (b := b) (e := e) (r := q) (k := f) (by omega) g1
              rw [hg] at hgo
              rw [← hgo]
              exact ⟨rfl, _, _, rfl, hT2, ⟨q, hR2.on rfl rfl (am_up_row _ _ _ _ (by decide)) (am_up_row _ _ _ _ (by decide))⟩, fun _ => ⟨am_up_eq _ _ _ _, rSo_lt hR2⟩, fun h h1 h2 h4 => by rw [hI2 h h1]; exact hI h h1 h2 h4, fun h h1 h2 h4 => by rw [am_up_row _ _ _ _ h1]; exact hJ h h2 h4⟩
  refine am_aload_n (q := 1) C dX6_faultIn_0 rfl rfl ?_
  refine am_callN (q := 4) (As := []) (rest := []) C mb_X8_rewind im_X8_rewind se_X8_rewind mn_X6_38 cb_8 kk_163 (show 163 < 215 by decide) dX6_faultIn_1 rfl sp_X8_rewind rfl rfl ⟨by decide, by decide⟩ ⟨Nat.le_refl _, Nat.le_refl _⟩ (Nat.le_of_ble_eq_true rfl) (am_rve ?_)
  refine am_aload_n (q := 5) C dX6_faultIn_4 rfl rfl ?_
  refine am_iconst (q := 6) (v := iZ 0) C dX6_faultIn_5 rfl rfl ?_
  refine am_putI (q := 9) C fw_X6_22 dX6_faultIn_6 rfl rfl kk_165 (show 165 < 215 by decide) ?_
  refine am_aload_n (q := 10) C dX6_faultIn_9 rfl rfl ?_
  refine am_lconst (q := 11) (v := lN 0) C dX6_faultIn_10 rfl rfl ?_
  refine am_callV (q := 14) (As := [.long (lN 0)]) (rest := []) C mb_X6_begin im_X6_begin se_X6_begin ml_X6_43 cb_6 kk_165 (show 165 < 215 by decide) dX6_faultIn_11 rfl (sp_X6_begin (atR_op (hR.on (am_up_row _ _ _ _ (by decide) |>.trans (am_up_row _ _ _ _ (by decide))) (am_up_row _ _ _ _ (by decide) |>.trans (am_up_row _ _ _ _ (by decide))) rfl rfl) (o := 0) (by decide)) (v := 0) (by decide)) rfl rfl ⟨by decide, by decide⟩ ⟨Nat.le_refl _, Nat.le_refl _⟩ (Nat.le_of_ble_eq_true rfl) (am_rv (fun w' hw' => ?_))
  obtain ⟨I1, J1, rfl, hA1, hf1⟩ := hw'
  refine am_iconst (q := 15) (v := iZ 0) C dX6_faultIn_14 rfl rfl ?_
  refine am_istore_n (q := 16) (L' := [some (.ref 165), some (.ref 163), some (.int (iZ 0)), none]) C dX6_faultIn_15 rfl (by decide) rfl rfl ?_
  refine lp 102 0 0 100 _ I1 J1 (Nat.le_refl _) (Nat.zero_le _) rfl (hT.on ?_ ?_) ?_ hA1 (fun h h1 h2 h4 => ?_) (fun h h2 h4 => hf1.2.2 h h2 h4) rfl (by omega)
  · rw [hf1.1 163 (by decide) (by decide), am_up_row _ _ _ _ (by decide), am_up_ne _ _ _ _ (Or.inr (by decide)), am_up_ne _ _ _ _ (Or.inr (by decide))]
  · rw [hf1.1 164 (by decide) (by decide), am_up_row _ _ _ _ (by decide), am_up_row _ _ _ _ (by decide), am_up_row _ _ _ _ (by decide)]
  · rw [hf1.1 163 (by decide) (by decide), am_up_row _ _ _ _ (by decide)]; exact am_up_eq _ _ _ _
  · rw [hf1.1 h h2 h4, am_up_row _ _ _ _ h2, am_up_row _ _ _ _ h1, am_up_row _ _ _ _ h1]
