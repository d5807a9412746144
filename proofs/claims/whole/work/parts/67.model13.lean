variable {G : am_G} {I : Nat → Nat → Int32} {J : Nat → Nat → Int64}
def frN (I I' : Nat → Nat → Int32) : Prop := (∀ k, k ≠ 22 → k ≠ 23 → I' 191 k = I 191 k) ∧ ∀ h, h ≠ 191 → I' h = I h
def frP (I I' : Nat → Nat → Int32) : Prop := (∀ k, k < 22 ∨ 24 < k → I' 191 k = I 191 k) ∧ ∀ h, h ≠ 191 → I' h = I h
theorem frN_refl : frN I I := ⟨fun _ _ _ => rfl, fun _ _ => rfl⟩
theorem frP_refl : frP I I := ⟨fun _ _ => rfl, fun _ _ => rfl⟩
theorem frN.P {I' : Nat → Nat → Int32} (h : frN I I') : frP I I' := ⟨fun k hk => h.1 k (by omega) (by omega), h.2⟩
theorem frP_tr {I1 I2 : Nat → Nat → Int32} (h : frP I I1) (g : frP I1 I2) : frP I I2 := ⟨fun k hk => (g.1 k hk).trans (h.1 k hk), fun x hx => (g.2 x hx).trans (h.2 x hx)⟩
theorem frN_up {I1 : Nat → Nat → Int32} (h : frN I I1) {k : Nat} (hk : k = 22 ∨ k = 23) {v : Int32} : frN I (am_up I1 191 k v) := ⟨fun j h1 h2 => by rw [am_up_ne _ _ _ _ (Or.inr (by omega))]; exact h.1 j h1 h2, fun x hx => by rw [am_up_row _ _ _ _ hx]; exact h.2 x hx⟩
theorem frP_up {I1 : Nat → Nat → Int32} (h : frP I I1) {v : Int32} : frP I (am_up I1 191 24 v) := ⟨fun j h1 => by rw [am_up_ne _ _ _ _ (Or.inr (by omega))]; exact h.1 j h1, fun x hx => by rw [am_up_row _ _ _ _ hx]; exact h.2 x hx⟩
theorem frP.B {I1 : Nat → Nat → Int32} {n : Nat} {b : Nat → Nat} (h : frP I I1) (hB : atB I n b) : atB I1 n b := hB.on (h.1 21 (by omega)) (h.2 206 (by decide))
/-- where the reader stands: before the token at s -/
def psM (I : Nat → Nat → Int32) (n : Nat) (b : Nat → Nat) (s : Nat) (wr : Bool) : Prop := atB I n b ∧ s ≤ n ∧ I 191 22 = iZ (s : Int) ∧ I 191 23 = iZ (tkZ n b s : Int) ∧ I 191 24 = (if wr = true then 1 else 0)
def nxP (n : Nat) (b : Nat → Nat) (s : Nat) : Nat := tkA n b (tkZ n b s)
theorem nxP_le {n s : Nat} {b : Nat → Nat} (h : s ≤ n) : s ≤ nxP n b s ∧ nxP n b s ≤ n := by
  have h1 := tkZ_le (b := b) h
  have h2 := tkA_le (b := b) h1.2
  unfold nxP
  omega
theorem nxP_lt {n s : Nat} {b : Nat → Nat} (h : s < n) : s < nxP n b s := by
  have h1 := tkZ_gt (b := b) (mt srt_0.mp (show ¬ n ≤ s by omega))
  have h2 := tkA_le (b := b) (tkZ_le (b := b) (show s ≤ n by omega)).2
  unfold nxP
  omega
theorem srt_1 {n p : Nat} {b : Nat → Nat} : srt n b p = 1 ↔ p < n ∧ 97 ≤ b p ∧ b p ≤ 122 := by unfold srt srB; split <;> (repeat' split) <;> omega
theorem srt_2 {n p : Nat} {b : Nat → Nat} : srt n b p = 2 ↔ p < n ∧ 48 ≤ b p ∧ b p ≤ 57 := by unfold srt srB; split <;> (repeat' split) <;> omega
theorem srt_4 {n p : Nat} {b : Nat → Nat} : srt n b p = 4 ↔ p < n ∧ b p = 32 := by unfold srt srB; split <;> (repeat' split) <;> omega
theorem tkS_st {n : Nat} {b : Nat → Nat} : ∀ k p, p + k = n → srt n b (tkS n b k p) ≠ 4
  | 0, p, h => fun e => by have := (srt_4.mp e).1; have : tkS n b 0 p = p := rfl; omega
  | k + 1, p, h => by
    show srt n b (if p < n ∧ srt n b p = 4 then tkS n b k (p + 1) else p) ≠ 4
    split
    · exact tkS_st k (p + 1) (by omega)
    · rename_i hc; intro e; exact hc ⟨by omega, e⟩
theorem tkE_in {n : Nat} {b : Nat → Nat} {c : Nat} : ∀ k p j, p ≤ j → j < tkE n b c k p → srt n b j = c
  | 0, p, j, h1, h2 => by have : tkE n b c 0 p = p := rfl; omega
  | k + 1, p, j, h1, h2 => by
    have h3 : j < (if p < n ∧ (c = 1 ∨ c = 2) ∧ srt n b p = c then tkE n b c k (p + 1) else p) := h2
    split at h3
    · rename_i hc
      by_cases e : j = p
      · rw [e]; exact hc.2.2
      · exact tkE_in k (p + 1) j (by omega) h3
    · omega
theorem tk_srt {n s j : Nat} {b : Nat → Nat} (h1 : s ≤ j) (h2 : j < tkZ n b s) : srt n b j = srt n b s := by
  unfold tkZ at h2
  split at h2
  · omega
  · by_cases e : j = s
    · rw [e]
    · exact tkE_in _ _ j (by omega) h2
theorem tkE_other {n : Nat} {b : Nat → Nat} {c : Nat} (hc : c ≠ 1) (hc2 : c ≠ 2) : ∀ k p, tkE n b c k p = p
  | 0, p => rfl
  | k + 1, p => by show (if _ then _ else _) = p; rw [if_neg (fun z => by rcases z.2.1 with e | e <;> omega)]
set_option maxRecDepth 4000 in
theorem sp_X11_isAt {n : Nat} {b : Nat → Nat} (hB : atB I n b) {k : Nat} (hk : k ≤ 100) {lo hi : Int} (hlo : rg lo) (hhi : rg hi) : am_S G mX11_isAt 2 0 0 [.ref 191, .int (iZ (k : Int)), .int (iZ lo), .int (iZ hi)] (215, kK, kR, I, J) (am_fi (if k < n ∧ lo ≤ (b k : Int) ∧ (b k : Int) ≤ hi then 1 else 0) (215, kK, kR, I, J)) := by
  have hn := hB.2.1
  refine am_spec (plainFor_of_name (by decide +kernel)) (Nat.le_of_ble_eq_true rfl) (L := [some (.ref 191), some (.int (iZ (k : Int))), some (.int (iZ lo)), some (.int (iZ hi))]) rfl (fun X C T => ?_)
  refine am_iload_n (q := 1) C dX11_isAt_0 rfl rfl ?_
  refine am_aload_n (q := 2) C dX11_isAt_1 rfl rfl ?_
  refine am_getIe (q := 5) (v := (iZ (n : Int))) C fb_X11_117 dX11_isAt_2 rfl rfl kk_191 (show 191 < 215 by decide) hB.1 ?_
  refine am_icmpZ_ge (q := 8) (tgt := 26) C dX11_isAt_5 (by decide) rfl ⟨by omega, by omega⟩ ⟨by omega, by omega⟩ (fun c1 => ?_) (fun c1 => ?_)
  · refine am_iconst (q := 27) (v := iZ 0) C dX11_isAt_26 rfl rfl ?_
    refine am_zretB (b := false) C T dX11_isAt_27 rfl (Nat.le_refl _) (Nat.le_refl _) rfl ⟨_, rfl, ?_⟩
    refine ⟨?_, rfl⟩
    first | (rw [if_pos (by omega)]; rfl) | (rw [if_neg (by omega)]; rfl)
  · have hbk := (hB.2.2 k (by omega)).2
    refine am_aload_n (q := 9) C dX11_isAt_8 rfl rfl ?_
    refine am_getR (q := 12) C fb_X11_59 dX11_isAt_9 rfl rfl kk_191 (show 191 < 215 by decide) kr_191_20 ?_
    refine am_iload_n (q := 13) C dX11_isAt_12 rfl rfl ?_
    refine am_ialoadZ (q := 14) k C dX11_isAt_13 rfl kk_206 (show 206 < 215 by decide) rfl (by omega) (by decide) ?_
    refine am_intE (y := (iZ (b k : Int))) (hB.2.2 k (by omega)).1 ?_
    refine am_iload_n (q := 15) C dX11_isAt_14 rfl rfl ?_
    refine am_iload_n (q := 16) C dX11_isAt_15 rfl rfl ?_
    refine am_callS (q := 19) (As := [.int (iZ (b k : Int)), .int (iZ lo), .int (iZ hi)]) (rest := []) C mb_X11_in st_X11_in ml_X11_89 dX11_isAt_16 rfl (sp_X11_in (v := (b k : Int)) ⟨by omega, by omega⟩ hlo hhi) rfl rfl ⟨by decide, by decide⟩ ⟨Nat.le_refl _, Nat.le_refl _⟩ (Nat.le_of_ble_eq_true rfl) (am_rie ?_)
    refine am_ifB_eq (q := 22) (tgt := 26) C dX11_isAt_19 (by decide) rfl (fun c2 => ?_) (fun c2 => ?_)
    · refine am_iconst (q := 27) (v := iZ 0) C dX11_isAt_26 rfl rfl ?_
      refine am_zretB (b := false) C T dX11_isAt_27 rfl (Nat.le_refl _) (Nat.le_refl _) rfl ⟨_, rfl, ?_⟩
      refine ⟨?_, rfl⟩
      first | (rw [if_pos (by omega)]; rfl) | (rw [if_neg (by omega)]; rfl)
    · refine am_iconst (q := 23) (v := iZ 1) C dX11_isAt_22 rfl rfl ?_
      refine am_goto (q := 27) C dX11_isAt_23 (by decide) ?_
      refine am_zretB (b := true) C T dX11_isAt_27 rfl (Nat.le_refl _) (Nat.le_refl _) rfl ⟨_, rfl, ?_⟩
      refine ⟨?_, rfl⟩
      first | (rw [if_pos (by omega)]; rfl) | (rw [if_neg (by omega)]; rfl)
set_option maxRecDepth 8000 in
theorem sp_X11_next {n : Nat} {b : Nat → Nat} (hB : atB I n b) {e : Nat} (he : e ≤ n) (h23 : I 191 23 = iZ (e : Int)) : am_S G mX11_next 3 0 0 [.ref 191] (215, kK, kR, I, J) (am_qv (fun w' => ∃ I' : Nat → Nat → Int32, w' = (215, kK, kR, I', J) ∧ I' 191 22 = iZ (tkA n b e : Int) ∧ I' 191 23 = iZ (tkZ n b (tkA n b e) : Int) ∧ frN I I')) := by
  have hn := hB.2.1
  refine am_spec (plainFor_of_name (by decide +kernel)) (Nat.le_of_ble_eq_true rfl) (L := [some (.ref 191)]) rfl (fun X C T => ?_)
  have l1 : ∀ (fuel : Nat) (I1 : Nat → Nat → Int32) (s p : Nat), (I1 191 22 = iZ (s : Int)) → (I1 191 23 = iZ (p : Int)) → (frN I I1) → (s = tkA n b e) → (s ≤ p ∧ p ≤ n) → (tkE n b 1 (n - p) p = tkZ n b s) → (n - p) < fuel → am_A G mX11_next X (am_rm 3 0 0) 59 [some (.ref 191)] [] (215, kK, kR, I1, J) 0 0 := by
    intro fuel
    induction fuel with
    | zero => intro I1 s p h22a h23a hF hs1 hsp hz hf; exact absurd hf (Nat.not_lt_zero _)
    | succ fuel ih =>
      intro I1 s p h22a h23a hF hs1 hsp hz hf
      refine am_aload_n (q := 60) C dX11_next_59 rfl rfl ?_
      refine am_aload_n (q := 61) C dX11_next_60 rfl rfl ?_
      refine am_getIe (q := 64) (v := (iZ (p : Int))) C fb_X11_122 dX11_next_61 rfl rfl kk_191 (show 191 < 215 by decide) h23a ?_
      refine am_bipush (q := 66) (v := iZ 97) C dX11_next_64 rfl rfl ?_
      refine am_bipush (q := 68) (v := iZ 122) C dX11_next_66 rfl rfl ?_
      refine am_callV (q := 71) (As := [.int (iZ (p : Int)), .int (iZ 97), .int (iZ 122)]) (rest := []) C mb_X11_isAt im_X11_isAt se_X11_isAt ml_X11_128 cb_11 kk_191 (show 191 < 215 by decide) dX11_next_68 rfl (sp_X11_isAt (hF.P.B hB) (k := p) (by omega) (lo := 97) (hi := 122) ⟨by omega, by omega⟩ ⟨by omega, by omega⟩) rfl rfl ⟨by decide, by decide⟩ ⟨Nat.le_refl _, Nat.le_refl _⟩ (Nat.le_of_ble_eq_true rfl) (am_rie ?_)
      refine am_ifB_eq (q := 74) (tgt := 151) C dX11_next_71 (by decide) rfl (fun c1 => ?_) (fun c1 => ?_)
      · refine am_vret C T dX11_next_151 rfl (Nat.le_refl _) (Nat.le_refl _) ⟨rfl, ?_⟩
        have ez : tkZ n b (tkA n b e) = p := by
          rw [← hs1]
          rcases hr : n - p with _ | r
          · rw [hr] at hz; exact hz.symm
          · rw [hr] at hz; rw [← hz]; show (if _ then _ else _) = p; rw [if_neg (fun z => by have := (srt_1.mp z.2.2).2; omega)]
        exact ⟨_, rfl, h22a.trans (by rw [hs1]), h23a.trans (by rw [ez]), hF⟩
      · refine am_aload_n (q := 75) C dX11_next_74 rfl rfl ?_
        refine am_dup (q := 76) C dX11_next_75 rfl rfl ?_
        refine am_getIe (q := 79) (v := (iZ (p : Int))) C fb_X11_122 dX11_next_76 rfl rfl kk_191 (show 191 < 215 by decide) h23a ?_
        refine am_iconst (q := 80) (v := iZ 1) C dX11_next_79 rfl rfl ?_
        refine am_iaddZ (q := 81) C dX11_next_80 rfl ?_
        refine am_putI (q := 84) C fw_X11_122 dX11_next_81 rfl rfl kk_191 (show 191 < 215 by decide) ?_
        refine am_goto (q := 59) C dX11_next_84 (by decide) ?_
        have hz2 : tkE n b 1 (n - p) p = tkE n b 1 (n - (p + 1)) (p + 1) := by
          obtain ⟨r, hr⟩ : ∃ r, n - p = r + 1 := ⟨n - p - 1, by omega⟩
          rw [hr, show n - (p + 1) = r by omega]
          show (if _ then _ else _) = _; rw [if_pos ⟨by omega, by decide, srt_1.mpr ⟨by omega, by omega, by omega⟩⟩]
        exact ih _ s (p + 1) (by rw [am_up_ne _ _ _ _ (Or.inr (by decide))]; exact h22a) (am_up_eq _ _ _ _) (frN_up hF (Or.inr rfl)) hs1 (by omega) (hz2 ▸ hz) (by omega)
  have l2 : ∀ (fuel : Nat) (I1 : Nat → Nat → Int32) (s p : Nat), (I1 191 22 = iZ (s : Int)) → (I1 191 23 = iZ (p : Int)) → (frN I I1) → (s = tkA n b e) → (s ≤ p ∧ p ≤ n) → (tkE n b 2 (n - p) p = tkZ n b s) → (n - p) < fuel → am_A G mX11_next X (am_rm 3 0 0) 102 [some (.ref 191)] [] (215, kK, kR, I1, J) 0 0 := by
    intro fuel
    induction fuel with
    | zero => intro I1 s p h22a h23a hF hs1 hsp hz hf; exact absurd hf (Nat.not_lt_zero _)
    | succ fuel ih =>
      intro I1 s p h22a h23a hF hs1 hsp hz hf
      refine am_aload_n (q := 103) C dX11_next_102 rfl rfl ?_
      refine am_aload_n (q := 104) C dX11_next_103 rfl rfl ?_
      refine am_getIe (q := 107) (v := (iZ (p : Int))) C fb_X11_122 dX11_next_104 rfl rfl kk_191 (show 191 < 215 by decide) h23a ?_
      refine am_bipush (q := 109) (v := iZ 48) C dX11_next_107 rfl rfl ?_
      refine am_bipush (q := 111) (v := iZ 57) C dX11_next_109 rfl rfl ?_
      refine am_callV (q := 114) (As := [.int (iZ (p : Int)), .int (iZ 48), .int (iZ 57)]) (rest := []) C mb_X11_isAt im_X11_isAt se_X11_isAt ml_X11_128 cb_11 kk_191 (show 191 < 215 by decide) dX11_next_111 rfl (sp_X11_isAt (hF.P.B hB) (k := p) (by omega) (lo := 48) (hi := 57) ⟨by omega, by omega⟩ ⟨by omega, by omega⟩) rfl rfl ⟨by decide, by decide⟩ ⟨Nat.le_refl _, Nat.le_refl _⟩ (Nat.le_of_ble_eq_true rfl) (am_rie ?_)
      refine am_ifB_eq (q := 117) (tgt := 151) C dX11_next_114 (by decide) rfl (fun c1 => ?_) (fun c1 => ?_)
      · refine am_vret C T dX11_next_151 rfl (Nat.le_refl _) (Nat.le_refl _) ⟨rfl, ?_⟩
        have ez : tkZ n b (tkA n b e) = p := by
          rw [← hs1]
          rcases hr : n - p with _ | r
          · rw [hr] at hz; exact hz.symm
          · rw [hr] at hz; rw [← hz]; show (if _ then _ else _) = p; rw [if_neg (fun z => by have := (srt_2.mp z.2.2).2; omega)]
        exact ⟨_, rfl, h22a.trans (by rw [hs1]), h23a.trans (by rw [ez]), hF⟩
      · refine am_aload_n (q := 118) C dX11_next_117 rfl rfl ?_
        refine am_dup (q := 119) C dX11_next_118 rfl rfl ?_
        refine am_getIe (q := 122) (v := (iZ (p : Int))) C fb_X11_122 dX11_next_119 rfl rfl kk_191 (show 191 < 215 by decide) h23a ?_
        refine am_iconst (q := 123) (v := iZ 1) C dX11_next_122 rfl rfl ?_
        refine am_iaddZ (q := 124) C dX11_next_123 rfl ?_
        refine am_putI (q := 127) C fw_X11_122 dX11_next_124 rfl rfl kk_191 (show 191 < 215 by decide) ?_
        refine am_goto (q := 102) C dX11_next_127 (by decide) ?_
        have hz2 : tkE n b 2 (n - p) p = tkE n b 2 (n - (p + 1)) (p + 1) := by
          obtain ⟨r, hr⟩ : ∃ r, n - p = r + 1 := ⟨n - p - 1, by omega⟩
          rw [hr, show n - (p + 1) = r by omega]
          show (if _ then _ else _) = _; rw [if_pos ⟨by omega, by decide, srt_2.mpr ⟨by omega, by omega, by omega⟩⟩]
        exact ih _ s (p + 1) (by rw [am_up_ne _ _ _ _ (Or.inr (by decide))]; exact h22a) (am_up_eq _ _ _ _) (frN_up hF (Or.inr rfl)) hs1 (by omega) (hz2 ▸ hz) (by omega)
  have l0 : ∀ (fuel : Nat) (I1 : Nat → Nat → Int32) (p : Nat), (I1 191 22 = iZ (p : Int)) → (frN I I1) → (p ≤ n) → (tkS n b (n - p) p = tkA n b e) → (n - p) < fuel → am_A G mX11_next X (am_rm 3 0 0) 8 [some (.ref 191)] [] (215, kK, kR, I1, J) 0 0 := by
    intro fuel
    induction fuel with
    | zero => intro I1 p h22a hF hp hA hf; exact absurd hf (Nat.not_lt_zero _)
    | succ fuel ih =>
      intro I1 p h22a hF hp hA hf
      refine am_aload_n (q := 9) C dX11_next_8 rfl rfl ?_
      refine am_aload_n (q := 10) C dX11_next_9 rfl rfl ?_
      refine am_getIe (q := 13) (v := (iZ (p : Int))) C fb_X11_125 dX11_next_10 rfl rfl kk_191 (show 191 < 215 by decide) h22a ?_
      refine am_bipush (q := 15) (v := iZ 32) C dX11_next_13 rfl rfl ?_
      refine am_bipush (q := 17) (v := iZ 32) C dX11_next_15 rfl rfl ?_
      refine am_callV (q := 20) (As := [.int (iZ (p : Int)), .int (iZ 32), .int (iZ 32)]) (rest := []) C mb_X11_isAt im_X11_isAt se_X11_isAt ml_X11_128 cb_11 kk_191 (show 191 < 215 by decide) dX11_next_17 rfl (sp_X11_isAt (hF.P.B hB) (k := p) (by omega) (lo := 32) (hi := 32) ⟨by omega, by omega⟩ ⟨by omega, by omega⟩) rfl rfl ⟨by decide, by decide⟩ ⟨Nat.le_refl _, Nat.le_refl _⟩ (Nat.le_of_ble_eq_true rfl) (am_rie ?_)
      refine am_ifB_eq (q := 23) (tgt := 36) C dX11_next_20 (by decide) rfl (fun c1 => ?_) (fun c1 => ?_)
      · refine am_aload_n (q := 37) C dX11_next_36 rfl rfl ?_
        refine am_aload_n (q := 38) C dX11_next_37 rfl rfl ?_
        refine am_getIe (q := 41) (v := (iZ (p : Int))) C fb_X11_125 dX11_next_38 rfl rfl kk_191 (show 191 < 215 by decide) h22a ?_
        refine am_putI (q := 44) C fw_X11_122 dX11_next_41 rfl rfl kk_191 (show 191 < 215 by decide) ?_
        refine am_aload_n (q := 45) C dX11_next_44 rfl rfl ?_
        refine am_aload_n (q := 46) C dX11_next_45 rfl rfl ?_
        refine am_getIe (q := 49) (v := (iZ (p : Int))) C fb_X11_125 dX11_next_46 rfl rfl kk_191 (show 191 < 215 by decide) (by rw [am_up_ne _ _ _ _ (Or.inr (by decide))]; exact h22a) ?_
        refine am_bipush (q := 51) (v := iZ 97) C dX11_next_49 rfl rfl ?_
        refine am_bipush (q := 53) (v := iZ 122) C dX11_next_51 rfl rfl ?_
        refine am_callV (q := 56) (As := [.int (iZ (p : Int)), .int (iZ 97), .int (iZ 122)]) (rest := []) C mb_X11_isAt im_X11_isAt se_X11_isAt ml_X11_128 cb_11 kk_191 (show 191 < 215 by decide) dX11_next_53 rfl (sp_X11_isAt ((frN_up hF (Or.inr rfl)).P.B hB) (k := p) (by omega) (lo := 97) (hi := 122) ⟨by omega, by omega⟩ ⟨by omega, by omega⟩) rfl rfl ⟨by decide, by decide⟩ ⟨Nat.le_refl _, Nat.le_refl _⟩ (Nat.le_of_ble_eq_true rfl) (am_rie ?_)
        refine am_ifB_eq (q := 59) (tgt := 87) C dX11_next_56 (by decide) rfl (fun c2 => ?_) (fun c2 => ?_)
        · refine am_aload_n (q := 88) C dX11_next_87 rfl rfl ?_
          refine am_aload_n (q := 89) C dX11_next_88 rfl rfl ?_
          refine am_getIe (q := 92) (v := (iZ (p : Int))) C fb_X11_125 dX11_next_89 rfl rfl kk_191 (show 191 < 215 by decide) (by rw [am_up_ne _ _ _ _ (Or.inr (by decide))]; exact h22a) ?_
          refine am_bipush (q := 94) (v := iZ 48) C dX11_next_92 rfl rfl ?_
          refine am_bipush (q := 96) (v := iZ 57) C dX11_next_94 rfl rfl ?_
          refine am_callV (q := 99) (As := [.int (iZ (p : Int)), .int (iZ 48), .int (iZ 57)]) (rest := []) C mb_X11_isAt im_X11_isAt se_X11_isAt ml_X11_128 cb_11 kk_191 (show 191 < 215 by decide) dX11_next_96 rfl (sp_X11_isAt ((frN_up hF (Or.inr rfl)).P.B hB) (k := p) (by omega) (lo := 48) (hi := 57) ⟨by omega, by omega⟩ ⟨by omega, by omega⟩) rfl rfl ⟨by decide, by decide⟩ ⟨Nat.le_refl _, Nat.le_refl _⟩ (Nat.le_of_ble_eq_true rfl) (am_rie ?_)
          refine am_ifB_eq (q := 102) (tgt := 130) C dX11_next_99 (by decide) rfl (fun c3 => ?_) (fun c3 => ?_)
          · refine am_aload_n (q := 131) C dX11_next_130 rfl rfl ?_
            refine am_getIe (q := 134) (v := (iZ (p : Int))) C fb_X11_125 dX11_next_131 rfl rfl kk_191 (show 191 < 215 by decide) (by rw [am_up_ne _ _ _ _ (Or.inr (by decide))]; exact h22a) ?_
            refine am_aload_n (q := 135) C dX11_next_134 rfl rfl ?_
            refine am_getIe (q := 138) (v := (iZ (n : Int))) C fb_X11_117 dX11_next_135 rfl rfl kk_191 (show 191 < 215 by decide) (by rw [am_up_ne _ _ _ _ (Or.inr (by decide))]; exact (hF.P.B hB).1) ?_
            refine am_icmpZ_ge (q := 141) (tgt := 151) C dX11_next_138 (by decide) rfl ⟨by omega, by omega⟩ ⟨by omega, by omega⟩ (fun c4 => ?_) (fun c4 => ?_)
            · refine am_vret C T dX11_next_151 rfl (Nat.le_refl _) (Nat.le_refl _) ⟨rfl, ?_⟩
              have hsA : p = tkA n b e := (by rw [← hA]; rcases hr : n - p with _ | r <;> first | rfl | (show _ = (if _ then _ else _); rw [if_neg (fun z => by have := (srt_4.mp z.2).2; omega)]))
              have ez : tkZ n b p = p := by
                unfold tkZ
                rw [if_pos (srt_0.mpr (by omega))]
              rw [← hsA, ez]
              refine ⟨_, rfl, ?_, ?_, ?_⟩
              · rw [am_up_ne _ _ _ _ (Or.inr (by decide))]; exact h22a
              · exact am_up_eq _ _ _ _
              · exact frN_up hF (Or.inr rfl)
            · refine am_aload_n (q := 142) C dX11_next_141 rfl rfl ?_
              refine am_dup (q := 143) C dX11_next_142 rfl rfl ?_
              refine am_getIe (q := 146) (v := (iZ (p : Int))) C fb_X11_122 dX11_next_143 rfl rfl kk_191 (show 191 < 215 by decide) (by rw [am_up_eq]) ?_
              refine am_iconst (q := 147) (v := iZ 1) C dX11_next_146 rfl rfl ?_
              refine am_iaddZ (q := 148) C dX11_next_147 rfl ?_
              refine am_putI (q := 151) C fw_X11_122 dX11_next_148 rfl rfl kk_191 (show 191 < 215 by decide) ?_
              refine am_vret C T dX11_next_151 rfl (Nat.le_refl _) (Nat.le_refl _) ⟨rfl, ?_⟩
              have hsA : p = tkA n b e := (by rw [← hA]; rcases hr : n - p with _ | r <;> first | rfl | (show _ = (if _ then _ else _); rw [if_neg (fun z => by have := (srt_4.mp z.2).2; omega)]))
              have ez : tkZ n b p = p + 1 := by
                unfold tkZ
                rw [if_neg (mt srt_0.mp (by omega)), tkE_other (fun z => by have := srt_1.mp z; omega) (fun z => by have := srt_2.mp z; omega)]
              rw [← hsA, ez]
              refine ⟨_, rfl, ?_, ?_, ?_⟩
              · rw [am_up_ne _ _ _ _ (Or.inr (by decide)), am_up_ne _ _ _ _ (Or.inr (by decide))]; exact h22a
              · exact am_up_eq _ _ _ _
              · exact frN_up (frN_up hF (Or.inr rfl)) (Or.inr rfl)
          · have hsA : p = tkA n b e := (by rw [← hA]; rcases hr : n - p with _ | r <;> first | rfl | (show _ = (if _ then _ else _); rw [if_neg (fun z => by have := (srt_4.mp z.2).2; omega)]))
            have hz0 : tkE n b 2 (n - p) p = tkZ n b p := by
              have e1 : srt n b p = 2 := srt_2.mpr ⟨by omega, by omega, by omega⟩
              obtain ⟨r, hr⟩ : ∃ r, n - p = r + 1 := ⟨n - p - 1, by omega⟩
              unfold tkZ
              rw [e1, if_neg (by decide), hr, show n - (p + 1) = r by omega]
              show (if _ then _ else _) = _; rw [if_pos ⟨by omega, by decide, e1⟩]
            exact l2 (n - p + 1) _ p p (by rw [am_up_ne _ _ _ _ (Or.inr (by decide))]; exact h22a) (am_up_eq _ _ _ _) (frN_up hF (Or.inr rfl)) hsA (by omega) hz0 (by omega)
        · have hsA : p = tkA n b e := (by rw [← hA]; rcases hr : n - p with _ | r <;> first | rfl | (show _ = (if _ then _ else _); rw [if_neg (fun z => by have := (srt_4.mp z.2).2; omega)]))
          have hz0 : tkE n b 1 (n - p) p = tkZ n b p := by
            have e1 : srt n b p = 1 := srt_1.mpr ⟨by omega, by omega, by omega⟩
            obtain ⟨r, hr⟩ : ∃ r, n - p = r + 1 := ⟨n - p - 1, by omega⟩
            unfold tkZ
            rw [e1, if_neg (by decide), hr, show n - (p + 1) = r by omega]
            show (if _ then _ else _) = _; rw [if_pos ⟨by omega, by decide, e1⟩]
          exact l1 (n - p + 1) _ p p (by rw [am_up_ne _ _ _ _ (Or.inr (by decide))]; exact h22a) (am_up_eq _ _ _ _) (frN_up hF (Or.inr rfl)) hsA (by omega) hz0 (by omega)
      · refine am_aload_n (q := 24) C dX11_next_23 rfl rfl ?_
        refine am_dup (q := 25) C dX11_next_24 rfl rfl ?_
        refine am_getIe (q := 28) (v := (iZ (p : Int))) C fb_X11_125 dX11_next_25 rfl rfl kk_191 (show 191 < 215 by decide) h22a ?_
        refine am_iconst (q := 29) (v := iZ 1) C dX11_next_28 rfl rfl ?_
        refine am_iaddZ (q := 30) C dX11_next_29 rfl ?_
        refine am_putI (q := 33) C fw_X11_125 dX11_next_30 rfl rfl kk_191 (show 191 < 215 by decide) ?_
        refine am_goto (q := 8) C dX11_next_33 (by decide) ?_
        have hz2 : tkS n b (n - p) p = tkS n b (n - (p + 1)) (p + 1) := by
          obtain ⟨r, hr⟩ : ∃ r, n - p = r + 1 := ⟨n - p - 1, by omega⟩
          rw [hr, show n - (p + 1) = r by omega]
          show (if _ then _ else _) = _; rw [if_pos ⟨by omega, srt_4.mpr ⟨by omega, by omega⟩⟩]
        exact ih _ (p + 1) (am_up_eq _ _ _ _) (frN_up hF (Or.inl rfl)) (by omega) (hz2 ▸ hA) (by omega)
  refine am_aload_n (q := 1) C dX11_next_0 rfl rfl ?_
  refine am_aload_n (q := 2) C dX11_next_1 rfl rfl ?_
  refine am_getIe (q := 5) (v := (iZ (e : Int))) C fb_X11_122 dX11_next_2 rfl rfl kk_191 (show 191 < 215 by decide) h23 ?_
  refine am_putI (q := 8) C fw_X11_125 dX11_next_5 rfl rfl kk_191 (show 191 < 215 by decide) ?_
  exact l0 (n - e + 1) _ e (am_up_eq _ _ _ _) (frN_up frN_refl (Or.inl rfl)) he rfl (by omega)
