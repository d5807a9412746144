variable {G : am_G} {I : Nat → Nat → Int32} {J : Nat → Nat → Int64}
set_option maxRecDepth 8000 in
theorem ev_step {n : Nat} {b : Nat → Nat} {o s : Nat} (ho : o ≤ 4) (IH1 : ∀ s', s ≤ s' → s' ≤ n → oneSp G J n b o s') : evSp G J n b o s := by
  intro I P0 hA
  have hsn := P0.2.1
  refine am_spec (plainFor_of_name (by decide +kernel)) (Nat.le_of_ble_eq_true rfl) (L := [some (.ref 191), some (.int (iZ (o : Int))), none, none]) rfl (fun X C T => ?_)
  have lw : ∀ (I1 : Nat → Nat → Int32) (v : Int64) (s' : Nat), frP I I1 → psM I1 n b s' true → (∀ r : RS, r.1 = o → r.2.2.2.2.1 = 0 → r.2.2.2.1 r.1 = false → (Pg n b s r).1 = s') → am_A G mX11_every X (am_rm (3 * (n - s) + 9) 0 0) 6 [some (.ref 191), some (.int (iZ (o : Int))), some (.long v), none] [] (215, kK, kR, I1, J) 0 0 := by
    intro I1 v s' hF hP hG
    refine am_aload_n (q := 7) C dX11_every_6 rfl rfl ?_
    refine am_sipush (q := 10) (v := iZ 1111) C dX11_every_7 rfl rfl ?_
    refine am_callV (q := 13) (As := [.int (iZ 1111)]) (rest := []) C mb_X11_takes im_X11_takes se_X11_takes ml_X11_142 cb_11 kk_191 (show 191 < 215 by decide) dX11_every_10 rfl (spW_X11_takes hP) rfl rfl ⟨by show _ ≤ 3 * (n - s) + 9; omega, by show _ ≤ 64 * (3 * (n - s) + 9); omega⟩ ⟨Nat.le_refl _, Nat.le_refl _⟩ (Nat.le_of_ble_eq_true rfl) (am_rie ?_)
    refine am_ifZ_eq (q := 16) (tgt := 27) C dX11_every_13 (by decide) rfl ⟨by omega, by omega⟩ (fun x1 => ?_) (fun x1 => ?_)
    · refine am_lload_n (q := 28) C dX11_every_27 rfl rfl ?_
      refine am_lret C T dX11_every_28 rfl (Nat.le_refl _) (Nat.le_refl _) ⟨_, rfl, ?_⟩
      exact ⟨_, rfl, hF, Or.inr ⟨s', hP, hG⟩⟩
    · exact absurd x1 (by decide)
  have lp : ∀ (fuel : Nat) (I1 : Nat → Nat → Int32) (Sk sk : Nat), (frP I I1) → (psM I1 n b sk false) → (tkA n b sk = sk) → (Sk < 2 ^ 61) → (s ≤ sk) → (∀ r : RS, r.1 = o → r.2.2.2.2.1 = 0 → r.2.2.2.1 r.1 = false → Pg n b s r = Pg n b sk (rHold Sk r)) → (n - sk) < fuel → am_A G mX11_every X (am_rm (3 * (n - s) + 9) 0 0) 6 [some (.ref 191), some (.int (iZ (o : Int))), some (.long (lN Sk)), none] [] (215, kK, kR, I1, J) 0 0 := by
    intro fuel
    induction fuel with
    | zero => intro I1 Sk sk hF hP hT hS hle hG hf; exact absurd hf (Nat.not_lt_zero _)
    | succ fuel ih =>
      intro I1 Sk sk hF hP hT hS hle hG hf
      have hsk := hP.2.1
      have hz := tkZ_le (b := b) hsk
      refine am_aload_n (q := 7) C dX11_every_6 rfl rfl ?_
      refine am_sipush (q := 10) (v := iZ 1111) C dX11_every_7 rfl rfl ?_
      refine am_callV (q := 13) (As := [.int (iZ 1111)]) (rest := []) C mb_X11_takes im_X11_takes se_X11_takes ml_X11_142 cb_11 kk_191 (show 191 < 215 by decide) dX11_every_10 rfl (sp_X11_takes hP (i := 7) ⟨by omega, by omega⟩ (hv_7 rfl hz.1 hz.2)) rfl rfl ⟨by show _ ≤ 3 * (n - s) + 9; omega, by show _ ≤ 64 * (3 * (n - s) + 9); omega⟩ ⟨Nat.le_refl _, Nat.le_refl _⟩ (Nat.le_of_ble_eq_true rfl) (am_ri (fun v' w' hw' => ?_))
      obtain ⟨rfl, I2, rfl, f2, P2⟩ := hw'
      have F2 := frP_tr hF f2
      refine am_ifB_eq (q := 16) (tgt := 27) C dX11_every_13 (by decide) rfl (fun c1 => ?_) (fun c1 => ?_)
      · have q7 : ¬ (spl b sk (tkZ n b sk) 7 = true) := by assumption
        rw [if_neg q7] at P2
        refine am_lload_n (q := 28) C dX11_every_27 rfl rfl ?_
        refine am_lret C T dX11_every_28 rfl (Nat.le_refl _) (Nat.le_refl _) ⟨_, rfl, ?_⟩
        exact ⟨_, rfl, F2, Or.inl ⟨Sk, sk, rfl, hS, hle, hT, P2, q7, hG⟩⟩
      · have q7 : spl b sk (tkZ n b sk) 7 = true := by assumption
        rw [if_pos q7] at P2
        have hl := (spl_in hsk (by decide) q7).1
        have hnx := nxP_lt (b := b) hl
        have hnn := nxP_le (b := b) hsk
        have hnt := nxP_tk (b := b) hsk
        refine am_lload_n (q := 17) C dX11_every_16 rfl rfl ?_
        refine am_aload_n (q := 18) C dX11_every_17 rfl rfl ?_
        refine am_iload_n (q := 19) C dX11_every_18 rfl rfl ?_
        refine am_callV (q := 22) (As := [.int (iZ (o : Int))]) (rest := [.long (lN Sk)]) C mb_X11_one im_X11_one se_X11_one ml_X11_145 cb_11 kk_191 (show 191 < 215 by decide) dX11_every_19 rfl (IH1 (nxP n b sk) (by omega) hnn.2 I2 P2 hnt) rfl rfl ⟨by show _ ≤ 3 * (n - s) + 9; omega, by show _ ≤ 64 * (3 * (n - s) + 9); omega⟩ ⟨Nat.le_refl _, Nat.le_refl _⟩ (Nat.le_of_ble_eq_true rfl) (am_rl (fun v' w' hw' => ?_))
        obtain ⟨I3, rfl, f3, hQ⟩ := hw'
        have F3 := frP_tr F2 f3
        rcases hQ with ⟨S, s', rfl, hS2, hle2, hT2, hP3, hG2⟩ | ⟨s', hP3, hG2⟩
        · refine am_land (q := 23) C dX11_every_22 rfl ?_
          refine am_longE (y := (lN (Sk &&& S))) (wb_and (by omega) (by omega)) ?_
          refine am_lstore_n (q := 24) (L' := [some (.ref 191), some (.int (iZ (o : Int))), some (.long (lN (Sk &&& S))), none]) C dX11_every_23 rfl (by decide) rfl rfl ?_
          refine am_goto (q := 6) C dX11_every_24 (by decide) ?_
          refine ih I3 (Sk &&& S) s' F3 hP3 hT2 (Nat.lt_of_le_of_lt Nat.and_le_left hS) (by omega) (fun r hr h0 hd => ?_) (by omega)
          rw [hG r hr h0 hd, P_and hT hsk rfl q7]
          rw [hG2 (rSt 0 (rHold Sk r).2.2.2.2.2 (rHold Sk r)) hr rfl]
          exact congrArg (Pg n b s') (hold_and hd _ rfl)
        · refine am_land (q := 23) C dX11_every_22 rfl ?_
          refine am_lstore_n (q := 24) (L' := [some (.ref 191), some (.int (iZ (o : Int))), some (.long ((lN Sk) &&& v')), none]) C dX11_every_23 rfl (by decide) rfl rfl ?_
          refine am_goto (q := 6) C dX11_every_24 (by decide) ?_
          refine lw I3 _ s' F3 hP3 (fun r hr h0 hd => ?_)
          rw [hG r hr h0 hd, P_and hT hsk rfl q7]
          exact hG2 _ hr rfl
  refine am_aload_n (q := 1) C dX11_every_0 rfl rfl ?_
  refine am_iload_n (q := 2) C dX11_every_1 rfl rfl ?_
  refine am_callV (q := 5) (As := [.int (iZ (o : Int))]) (rest := []) C mb_X11_one im_X11_one se_X11_one ml_X11_145 cb_11 kk_191 (show 191 < 215 by decide) dX11_every_2 rfl (IH1 s (Nat.le_refl _) hsn I P0 hA) rfl rfl ⟨by show _ ≤ 3 * (n - s) + 9; omega, by show _ ≤ 64 * (3 * (n - s) + 9); omega⟩ ⟨Nat.le_refl _, Nat.le_refl _⟩ (Nat.le_of_ble_eq_true rfl) (am_rl (fun v' w' hw' => ?_))
  obtain ⟨I1, rfl, f1, hQ⟩ := hw'
  rcases hQ with ⟨S, s', rfl, hS2, hle2, hT2, hP3, hG2⟩ | ⟨s', hP3, hG2⟩
  · refine am_lstore_n (q := 6) (L' := [some (.ref 191), some (.int (iZ (o : Int))), some (.long (lN S)), none]) C dX11_every_5 rfl (by decide) rfl rfl ?_
    exact lp (n - s' + 1) I1 S s' f1 hP3 hT2 hS2 hle2 (fun r hr h0 hd => hG2 r hr h0) (by omega)
  · refine am_lstore_n (q := 6) (L' := [some (.ref 191), some (.int (iZ (o : Int))), some (.long v'), none]) C dX11_every_5 rfl (by decide) rfl rfl ?_
    exact lw I1 _ s' f1 hP3 (fun r hr h0 hd => hG2 r hr h0)
set_option maxRecDepth 8000 in
theorem so_step {n : Nat} {b : Nat → Nat} {o s : Nat} (ho : o ≤ 4) (IH1 : ∀ s', s ≤ s' → s' ≤ n → evSp G J n b o s') : soSp G J n b o s := by
  intro I P0 hA
  have hsn := P0.2.1
  refine am_spec (plainFor_of_name (by decide +kernel)) (Nat.le_of_ble_eq_true rfl) (L := [some (.ref 191), some (.int (iZ (o : Int))), none, none]) rfl (fun X C T => ?_)
  have lw : ∀ (I1 : Nat → Nat → Int32) (v : Int64) (s' : Nat), frP I I1 → psM I1 n b s' true → (∀ r : RS, r.1 = o → (Pg n b s (rBeg 0 r)).1 = s') → am_A G mX11_some X (am_rm (3 * (n - s) + 10) 0 0) 6 [some (.ref 191), some (.int (iZ (o : Int))), some (.long v), none] [] (215, kK, kR, I1, J) 0 0 := by
    intro I1 v s' hF hP hG
    refine am_aload_n (q := 7) C dX11_some_6 rfl rfl ?_
    refine am_sipush (q := 10) (v := iZ 423) C dX11_some_7 rfl rfl ?_
    refine am_callV (q := 13) (As := [.int (iZ 423)]) (rest := []) C mb_X11_takes im_X11_takes se_X11_takes ml_X11_142 cb_11 kk_191 (show 191 < 215 by decide) dX11_some_10 rfl (spW_X11_takes hP) rfl rfl ⟨by show _ ≤ 3 * (n - s) + 10; omega, by show _ ≤ 64 * (3 * (n - s) + 10); omega⟩ ⟨Nat.le_refl _, Nat.le_refl _⟩ (Nat.le_of_ble_eq_true rfl) (am_rie ?_)
    refine am_ifZ_eq (q := 16) (tgt := 27) C dX11_some_13 (by decide) rfl ⟨by omega, by omega⟩ (fun x1 => ?_) (fun x1 => ?_)
    · refine am_lload_n (q := 28) C dX11_some_27 rfl rfl ?_
      refine am_lret C T dX11_some_28 rfl (Nat.le_refl _) (Nat.le_refl _) ⟨_, rfl, ?_⟩
      exact ⟨_, rfl, hF, Or.inr ⟨s', hP, hG⟩⟩
    · exact absurd x1 (by decide)
  have lp : ∀ (fuel : Nat) (I1 : Nat → Nat → Int32) (A Sk sk : Nat), (frP I I1) → (psM I1 n b sk false) → (tkA n b sk = sk) → (A < 2 ^ 61) → (Sk < 2 ^ 61) → (s ≤ sk) → (¬ spl b sk (tkZ n b sk) 7 = true) → (∀ r : RS, r.1 = o → Pg n b s (rBeg 0 r) = Pg n b sk (rHold Sk (rBeg A r))) → (n - sk) < fuel → am_A G mX11_some X (am_rm (3 * (n - s) + 10) 0 0) 6 [some (.ref 191), some (.int (iZ (o : Int))), some (.long (lN (A ||| Sk))), none] [] (215, kK, kR, I1, J) 0 0 := by
    intro fuel
    induction fuel with
    | zero => intro I1 A Sk sk hF hP hT hA3 hS hle n7 hG hf; exact absurd hf (Nat.not_lt_zero _)
    | succ fuel ih =>
      intro I1 A Sk sk hF hP hT hA3 hS hle n7 hG hf
      have hsk := hP.2.1
      have hz := tkZ_le (b := b) hsk
      refine am_aload_n (q := 7) C dX11_some_6 rfl rfl ?_
      refine am_sipush (q := 10) (v := iZ 423) C dX11_some_7 rfl rfl ?_
      refine am_callV (q := 13) (As := [.int (iZ 423)]) (rest := []) C mb_X11_takes im_X11_takes se_X11_takes ml_X11_142 cb_11 kk_191 (show 191 < 215 by decide) dX11_some_10 rfl (sp_X11_takes hP (i := 8) ⟨by omega, by omega⟩ (hv_8 rfl hz.1 hz.2)) rfl rfl ⟨by show _ ≤ 3 * (n - s) + 10; omega, by show _ ≤ 64 * (3 * (n - s) + 10); omega⟩ ⟨Nat.le_refl _, Nat.le_refl _⟩ (Nat.le_of_ble_eq_true rfl) (am_ri (fun v' w' hw' => ?_))
      obtain ⟨rfl, I2, rfl, f2, P2⟩ := hw'
      have F2 := frP_tr hF f2
      refine am_ifB_eq (q := 16) (tgt := 27) C dX11_some_13 (by decide) rfl (fun c1 => ?_) (fun c1 => ?_)
      · have q8 : ¬ (spl b sk (tkZ n b sk) 8 = true) := by assumption
        rw [if_neg q8] at P2
        refine am_lload_n (q := 28) C dX11_some_27 rfl rfl ?_
        refine am_lret C T dX11_some_28 rfl (Nat.le_refl _) (Nat.le_refl _) ⟨_, rfl, ?_⟩
        exact ⟨_, rfl, F2, Or.inl ⟨A, Sk, sk, rfl, hA3, hS, hle, hT, P2, n7, q8, hG⟩⟩
      · have q8 : spl b sk (tkZ n b sk) 8 = true := by assumption
        rw [if_pos q8] at P2
        have hl := (spl_in hsk (by decide) q8).1
        have hnx := nxP_lt (b := b) hl
        have hnn := nxP_le (b := b) hsk
        have hnt := nxP_tk (b := b) hsk
        refine am_lload_n (q := 17) C dX11_some_16 rfl rfl ?_
        refine am_aload_n (q := 18) C dX11_some_17 rfl rfl ?_
        refine am_iload_n (q := 19) C dX11_some_18 rfl rfl ?_
        refine am_callV (q := 22) (As := [.int (iZ (o : Int))]) (rest := [.long (lN (A ||| Sk))]) C mb_X11_every im_X11_every se_X11_every ml_X11_168 cb_11 kk_191 (show 191 < 215 by decide) dX11_some_19 rfl (IH1 (nxP n b sk) (by omega) hnn.2 I2 P2 hnt) rfl rfl ⟨by show _ ≤ 3 * (n - s) + 10; omega, by show _ ≤ 64 * (3 * (n - s) + 10); omega⟩ ⟨Nat.le_refl _, Nat.le_refl _⟩ (Nat.le_of_ble_eq_true rfl) (am_rl (fun v' w' hw' => ?_))
        obtain ⟨I3, rfl, f3, hQ⟩ := hw'
        have F3 := frP_tr F2 f3
        rcases hQ with ⟨S, s', rfl, hS2, hle2, hT2, hP3, n7', hG2⟩ | ⟨s', hP3, hG2⟩
        · refine am_lor (q := 23) C dX11_some_22 rfl ?_
          refine am_longE (y := (lN (A ||| Sk ||| S))) (wb_or (by have := Nat.or_lt_two_pow hA3 hS; omega) (by omega)) ?_
          refine am_lstore_n (q := 24) (L' := [some (.ref 191), some (.int (iZ (o : Int))), some (.long (lN (A ||| Sk ||| S))), none]) C dX11_some_23 rfl (by decide) rfl rfl ?_
          refine am_goto (q := 6) C dX11_some_24 (by decide) ?_
          refine ih I3 (A ||| Sk) S s' F3 hP3 hT2 (Nat.or_lt_two_pow hA3 hS) hS2 (by omega) n7' (fun r hr => ?_) (by omega)
          rw [hG r hr, P_or hT hsk rfl q8, so_beg hS, beg_beg]
          exact hG2 _ hr rfl (up1_eq _ _ _)
        · refine am_lor (q := 23) C dX11_some_22 rfl ?_
          refine am_lstore_n (q := 24) (L' := [some (.ref 191), some (.int (iZ (o : Int))), some (.long ((lN (A ||| Sk)) ||| v')), none]) C dX11_some_23 rfl (by decide) rfl rfl ?_
          refine am_goto (q := 6) C dX11_some_24 (by decide) ?_
          refine lw I3 _ s' F3 hP3 (fun r hr => ?_)
          rw [hG r hr, P_or hT hsk rfl q8, so_beg hS, beg_beg]
          exact hG2 _ hr rfl (up1_eq _ _ _)
  refine am_aload_n (q := 1) C dX11_some_0 rfl rfl ?_
  refine am_iload_n (q := 2) C dX11_some_1 rfl rfl ?_
  refine am_callV (q := 5) (As := [.int (iZ (o : Int))]) (rest := []) C mb_X11_every im_X11_every se_X11_every ml_X11_168 cb_11 kk_191 (show 191 < 215 by decide) dX11_some_2 rfl (IH1 s (Nat.le_refl _) hsn I P0 hA) rfl rfl ⟨by show _ ≤ 3 * (n - s) + 10; omega, by show _ ≤ 64 * (3 * (n - s) + 10); omega⟩ ⟨Nat.le_refl _, Nat.le_refl _⟩ (Nat.le_of_ble_eq_true rfl) (am_rl (fun v' w' hw' => ?_))
  obtain ⟨I1, rfl, f1, hQ⟩ := hw'
  rcases hQ with ⟨S, s', rfl, hS2, hle2, hT2, hP3, n7', hG2⟩ | ⟨s', hP3, hG2⟩
  · refine am_longE (y := lN (0 ||| S)) (by rw [Nat.zero_or]) ?_
    refine am_lstore_n (q := 6) (L' := [some (.ref 191), some (.int (iZ (o : Int))), some (.long (lN (0 ||| S))), none]) C dX11_some_5 rfl (by decide) rfl rfl ?_
    exact lp (n - s' + 1) I1 0 S s' f1 hP3 hT2 (by decide) hS2 hle2 n7' (fun r hr => hG2 (rBeg 0 r) hr rfl (up1_eq _ _ _)) (by omega)
  · refine am_lstore_n (q := 6) (L' := [some (.ref 191), some (.int (iZ (o : Int))), some (.long v'), none]) C dX11_some_5 rfl (by decide) rfl rfl ?_
    exact lw I1 _ s' f1 hP3 (fun r hr => hG2 (rBeg 0 r) hr rfl (up1_eq _ _ _))
theorem read_all {n : Nat} {b : Nat → Nat} : ∀ k o s, n - s < k → s ≤ n → o ≤ 4 → oneSp G J n b o s ∧ evSp G J n b o s ∧ soSp G J n b o s
  | 0, _, _, h, _, _ => absurd h (Nat.not_lt_zero _)
  | k + 1, o, s, h, hs, ho => by
    have ih : ∀ o s', s < s' → s' ≤ n → o ≤ 4 → oneSp G J n b o s' ∧ evSp G J n b o s' ∧ soSp G J n b o s' := fun o s' h1 h2 h3 => read_all k o s' (by omega) h2 h3
    have h1 : oneSp G J n b o s := one_step ho (fun s' g1 g2 => (ih o s' g1 g2 ho).1) (fun g0 s' g1 g2 => (ih (o + 1) s' g1 g2 (by omega)).2.2)
    have h2 : evSp G J n b o s := ev_step ho (fun s' g1 g2 => by
      rcases Nat.lt_or_eq_of_le g1 with g | g
      · exact (ih o s' g g2 ho).1
      · rw [← g]; exact h1)
    exact ⟨h1, h2, so_step ho (fun s' g1 g2 => by
      rcases Nat.lt_or_eq_of_le g1 with g | g
      · exact (ih o s' g g2 ho).2.1
      · rw [← g]; exact h2)⟩
theorem cl_at {σ : SG} {I8 : Nat → Nat → Int32} (hM : atM I J σ) (F : frP I I8) (x : Int32) : atM (am_up (am_up I8 191 24 x) 191 21 (iZ 0)) J (clS σ) ∧ frM I J (am_up (am_up I8 191 24 x) 191 21 (iZ 0)) J := by
  have F9 : frP I (am_up I8 191 24 x) := frP_up F
  have hM9 : atM (am_up I8 191 24 x) J σ := hM.scr ⟨fun k hk => F9.1 k (by omega), fun h h1 _ => ⟨F9.2 h h1, rfl⟩⟩
  exact ⟨atM_tp hM9 (T := (0, σ.2.2.2.2.1.2)) ⟨am_up_eq _ _ _ _, Nat.zero_le _, fun k hk => absurd hk (Nat.not_lt_zero _)⟩ (fun k hk => am_up_ne _ _ _ _ (Or.inr hk)) (fun y h1 _ => am_up_row _ _ _ _ h1), fun h hh => ⟨by rw [am_up_row _ _ _ _ (by omega)]; exact F9.2 h (by omega), rfl⟩⟩
set_option maxRecDepth 8000 in
theorem sp_X11_rule {σ : SG} (hM : atM I J σ) {p : Int} (hp : rg p) (r : RS) : am_S G mX11_rule 320 0 0 [.ref 191, .int (iZ p)] (215, kK, kR, I, J) (am_qi (fun v w' => v = iZ (ruleA σ p r) ∧ ∃ (I' : Nat → Nat → Int32) (J' : Nat → Nat → Int64), w' = (215, kK, kR, I', J') ∧ atM I' J' (ruleT σ p r) ∧ frM I J I' J')) := by
  have hQ := hM.1
  have hK := hM.2.1
  have hm := hM.2.1.1
  have hL := hM.2.2.1
  obtain ⟨n, hn⟩ : ∃ n, n = tpN σ := ⟨_, rfl⟩
  obtain ⟨b, hb⟩ : ∃ b, b = σ.2.2.2.2.1.2 := ⟨_, rfl⟩
  have hB : atB I n b := by rw [hn, hb]; exact hM.2.2.2.2.2.2.1
  have hn100 := hB.2.1
  have hall : rlA σ r = Pg n b (tkA n b 0) (rBeg 0 (rOp 0 r)) := by
    rw [hn, hb]
    exact Pg_go (Nat.zero_le _) (by rw [← hn]; omega)
  refine am_spec (plainFor_of_name (by decide +kernel)) (Nat.le_of_ble_eq_true rfl) (L := [some (.ref 191), some (.int (iZ p)), none, none]) rfl (fun X C T => ?_)
  refine am_aload_n (q := 1) C dX11_rule_0 rfl rfl ?_
  refine am_iload_n (q := 2) C dX11_rule_1 rfl rfl ?_
  refine am_callV (q := 5) (As := [.int (iZ p)]) (rest := []) C mb_X11_isPart im_X11_isPart se_X11_isPart ml_X11_105 cb_11 kk_191 (show 191 < 215 by decide) dX11_rule_2 rfl (sp_X11_isPart hQ hK hp) rfl rfl ⟨by show _ ≤ 320; omega, by show _ ≤ 64 * (320); omega⟩ ⟨Nat.le_refl _, Nat.le_refl _⟩ (Nat.le_of_ble_eq_true rfl) (am_rie ?_)
  refine am_ifB_ne (q := 8) (tgt := 10) C dX11_rule_5 (by decide) rfl (fun c1 => ?_) (fun c1 => ?_)
  · refine am_aload_n (q := 11) C dX11_rule_10 rfl rfl ?_
    refine am_iconst (q := 12) (v := iZ 0) C dX11_rule_11 rfl rfl ?_
    refine am_putI (q := 15) C fw_X11_122 dX11_rule_12 rfl rfl kk_191 (show 191 < 215 by decide) ?_
    refine am_aload_n (q := 16) C dX11_rule_15 rfl rfl ?_
    refine am_iconst (q := 17) (v := iZ 0) C dX11_rule_16 rfl rfl ?_
    refine am_putZ (q := 20) C fw_X11_131 dX11_rule_17 rfl rfl (Or.inl rfl) kk_191 (show 191 < 215 by decide) ?_
    refine am_aload_n (q := 21) C dX11_rule_20 rfl rfl ?_
    have hB0 : atB (am_up (am_up I 191 23 (iZ 0)) 191 24 (iZ 0)) n b := hB.on (by rw [am_up_ne _ _ _ _ (Or.inr (by decide)), am_up_ne _ _ _ _ (Or.inr (by decide))]) (by rw [am_up_row _ _ _ _ (by decide), am_up_row _ _ _ _ (by decide)])
    refine am_callV (q := 24) (As := []) (rest := []) C mb_X11_next im_X11_next se_X11_next ml_X11_139 cb_11 kk_191 (show 191 < 215 by decide) dX11_rule_21 rfl (sp_X11_next hB0 (e := 0) (Nat.zero_le _) (by rw [am_up_ne _ _ _ _ (Or.inr (by decide)), am_up_eq]; rfl)) rfl rfl ⟨by show _ ≤ 320; omega, by show _ ≤ 64 * (320); omega⟩ ⟨Nat.le_refl _, Nat.le_refl _⟩ (Nat.le_of_ble_eq_true rfl) (am_rv (fun w' hw' => ?_))
    obtain ⟨I1, rfl, n1, n2, n3⟩ := hw'
    have hT1 := tkA_tkA (b := b) (Nat.zero_le n)
    have hL1 := (tkA_le (b := b) (Nat.zero_le n)).2
    have P1 : psM I1 n b (tkA n b 0) false := ⟨n3.P.B hB0, hL1, n1, n2, (n3.1 24 (by decide) (by decide)).trans (am_up_eq _ _ _ _)⟩
    have F1 : frP I I1 := frP_tr ⟨fun k hk => by rw [am_up_ne _ _ _ _ (Or.inr (by omega)), am_up_ne _ _ _ _ (Or.inr (by omega))], fun x hx => by rw [am_up_row _ _ _ _ hx, am_up_row _ _ _ _ hx]⟩ n3.P
    refine am_aload_n (q := 25) C dX11_rule_24 rfl rfl ?_
    refine am_iconst (q := 26) (v := iZ 0) C dX11_rule_25 rfl rfl ?_
    refine am_callV (q := 29) (As := [.int (iZ 0)]) (rest := []) C mb_X11_some im_X11_some se_X11_some ml_X11_165 cb_11 kk_191 (show 191 < 215 by decide) dX11_rule_26 rfl ((read_all (n + 1) 0 (tkA n b 0) (by omega) hL1 (by decide)).2.2 I1 P1 hT1) rfl rfl ⟨by show _ ≤ 320; omega, by show _ ≤ 64 * (320); omega⟩ ⟨Nat.le_refl _, Nat.le_refl _⟩ (Nat.le_of_ble_eq_true rfl) (am_rl (fun v' w' hw' => ?_))
    obtain ⟨I8, rfl, f8, hQ9⟩ := hw'
    have F8 := frP_tr F1 f8
    rcases hQ9 with ⟨A, S, s', rfl, hA3, hS3, hle, hT, hP2, n7, n8, hG⟩ | ⟨s', hP2, hG⟩
    · have hs' := hP2.2.1
      refine am_lstore_n (q := 30) (L' := [some (.ref 191), some (.int (iZ p)), some (.long (lN (A ||| S))), none]) C dX11_rule_29 rfl (by decide) rfl rfl ?_
      refine am_aload_n (q := 31) C dX11_rule_30 rfl rfl ?_
      refine am_aload_n (q := 32) C dX11_rule_31 rfl rfl ?_
      refine am_getIe (q := 35) (v := (iZ 0)) C fb_X11_131 dX11_rule_32 rfl rfl kk_191 (show 191 < 215 by decide) (hP2.2.2.2.2.trans rfl) ?_
      refine am_ifZ_ne (q := 38) (tgt := 49) C dX11_rule_35 (by decide) rfl ⟨by omega, by omega⟩ (fun c2 => ?_) (fun c2 => ?_)
      · exact absurd c2 (by decide)
      · refine am_aload_n (q := 39) C dX11_rule_38 rfl rfl ?_
        refine am_getIe (q := 42) (v := (iZ (s' : Int))) C fb_X11_125 dX11_rule_39 rfl rfl kk_191 (show 191 < 215 by decide) hP2.2.2.1 ?_
        refine am_aload_n (q := 43) C dX11_rule_42 rfl rfl ?_
        refine am_getIe (q := 46) (v := (iZ (n : Int))) C fb_X11_117 dX11_rule_43 rfl rfl kk_191 (show 191 < 215 by decide) hP2.1.1 ?_
        refine am_icmpZ_ge (q := 49) (tgt := 53) C dX11_rule_46 (by decide) rfl ⟨by omega, by omega⟩ ⟨by omega, by omega⟩ (fun c3 => ?_) (fun c3 => ?_)
        · refine am_iconst (q := 54) (v := iZ 0) C dX11_rule_53 rfl rfl ?_
          refine am_putZ (q := 57) C fw_X11_131 dX11_rule_54 rfl rfl (Or.inl rfl) kk_191 (show 191 < 215 by decide) ?_
          refine am_aload_n (q := 58) C dX11_rule_57 rfl rfl ?_
          refine am_iconst (q := 59) (v := iZ 0) C dX11_rule_58 rfl rfl ?_
          refine am_putI (q := 62) C fw_X11_117 dX11_rule_59 rfl rfl kk_191 (show 191 < 215 by decide) ?_
          refine am_aload_n (q := 63) C dX11_rule_62 rfl rfl ?_
          refine am_getIe (q := 66) (v := (iZ 0)) C fb_X11_131 dX11_rule_63 rfl rfl kk_191 (show 191 < 215 by decide) (by rw [am_up_ne _ _ _ _ (Or.inr (by decide)), am_up_eq]) ?_
          refine am_ifZ_eq (q := 69) (tgt := 77) C dX11_rule_66 (by decide) rfl ⟨by omega, by omega⟩ (fun c4 => ?_) (fun c4 => ?_)
          · have hp9 : 0 ≤ p ∧ p < pm σ.1 := by omega
            obtain ⟨q, rfl⟩ : ∃ q : Nat, p = q := ⟨p.toNat, by omega⟩
            have hSS := Nat.or_lt_two_pow hA3 hS3
            have hf : rlA σ r = (-1, A ||| S) := by
              rw [hall, hG (rOp 0 r) rfl, Pg_end hT (by omega) hP2.2.1 ⟨rfl, rfl⟩, so_beg hS3]
            have hcl := cl_at hM F8 (iZ 0)
            generalize am_up (am_up I8 191 24 (iZ 0)) 191 21 (iZ 0) = I9 at hcl ⊢
            obtain ⟨hM2, hfr2⟩ := hcl
            have hQ2 : atQ I9 J σ.1 := hM2.1
            have hL2 : atL I9 J σ.2.1.1 σ.2.1.2 σ.1 := hM2.2.2.1
            refine am_aload_n (q := 78) C dX11_rule_77 rfl rfl ?_
            refine am_iconst (q := 79) (v := iZ 3) C dX11_rule_78 rfl rfl ?_
            refine am_iload_n (q := 80) C dX11_rule_79 rfl rfl ?_
            refine am_callV (q := 83) (As := [.int (iZ 3), .int (iZ (q : Int))]) (rest := []) C mb_X11_changes im_X11_changes se_X11_changes ml_X11_96 cb_11 kk_191 (show 191 < 215 by decide) dX11_rule_80 rfl (sp_X11_changes hL2.1 hL2.2.1 (what := 3) (p := q) (by omega)) rfl rfl ⟨by show _ ≤ 320; omega, by show _ ≤ 64 * (320); omega⟩ ⟨Nat.le_refl _, Nat.le_refl _⟩ (Nat.le_of_ble_eq_true rfl) (am_rv (fun w' hw' => ?_))
            obtain ⟨I1, J1, rfl, g19, gsh, g0, g1, g2, g3, g4, g5, gfr⟩ := hw'
            refine am_aload_n (q := 84) C dX11_rule_83 rfl rfl ?_
            refine am_getR (q := 87) C fb_X11_25 dX11_rule_84 rfl rfl kk_191 (show 191 < 215 by decide) kr_191_7 ?_
            refine am_iload_n (q := 88) C dX11_rule_87 rfl rfl ?_
            refine am_lload_n (q := 89) C dX11_rule_88 rfl rfl ?_
            refine am_lastoreZ (q := 90) q C dX11_rule_89 rfl kk_195 (show 195 < 215 by decide) rfl (by omega) (by decide) ?_
            refine am_lload_n (q := 91) C dX11_rule_90 rfl rfl ?_
            refine am_callS (q := 94) (As := [.long (lN (A ||| S))]) (rest := []) C mb_X11_ones st_X11_ones ml_X11_113 dX11_rule_91 rfl (sp_X11_ones hSS) rfl rfl ⟨by show _ ≤ 320; omega, by show _ ≤ 64 * (320); omega⟩ ⟨Nat.le_refl _, Nat.le_refl _⟩ (Nat.le_of_ble_eq_true rfl) (am_rie ?_)
            refine am_iret C T dX11_rule_94 rfl (Nat.le_refl _) (Nat.le_refl _) ⟨_, rfl, ?_⟩
            unfold ruleA ruleT
            rw [if_pos hp9, hf, if_pos hp9, if_neg (show ¬ (0 : Int) ≤ -1 by decide), if_neg (show ¬ (0 : Int) ≤ -1 by decide)]
            obtain ⟨q1, q2, q3, q4⟩ := hQ2.2 q (by omega)
            simp only [Int.toNat_natCast]
            have hQ' : atQ I1 (am_up J1 195 q (lN (A ||| S))) (setr σ.1 q (A ||| S)) := by
              refine ⟨(gfr.1 0 (by decide)).trans hQ2.1, fun x hx => ?_⟩
              rw [(gfr.2 192 (by decide) (by decide)).1, (gfr.2 193 (by decide) (by decide)).1, (gfr.2 194 (by decide) (by decide)).1]
              obtain ⟨r1, r2, r3, r4⟩ := hQ2.2 x hx
              refine ⟨r1, r2, r3, ?_⟩
              show am_up J1 195 q _ 195 x = lN (if x = q then A ||| S else ps σ.1 x)
              by_cases e : x = q
              · rw [if_pos e, e, am_up_eq]
              · rw [if_neg e, am_up_ne _ _ _ _ (Or.inr e), (gfr.2 195 (by decide) (by decide)).2]; exact r4
            have hl : lgS I1 J1 (if σ.2.1.1 + 1 ≤ 30 then σ.2.1.1 else 29) (setr σ.1 q (A ||| S)) σ.1 := Or.inr (Or.inr ⟨q, 3, Or.inr rfl, g0, by show q < pm σ.1; omega, rfl, g1, ⟨g2.trans q1, g3.trans q2, g4.trans q3, g5.trans q4⟩, fun x hx hxq => ⟨rfl, rfl, rfl, if_neg hxq⟩⟩)
            have hL' := atL_push hL2 hK g19 gsh hl
            have hfin := atM_frL (t := setr σ.1 q (A ||| S)) (u := pushU σ.1 σ.2.1) hM2 (I' := I1) (J' := am_up J1 195 q (lN (A ||| S))) (gfr.1 1 (by decide)) (gfr.1 2 (by decide)) (gfr.1 3 (by decide)) (gfr.1 12 (by decide)) (gfr.1 21 (by decide)) (fun x hx => ⟨(gfr.2 x (by omega) (by omega)).1, by rw [am_up_row _ _ _ _ (by omega)]; exact (gfr.2 x (by omega) (by omega)).2⟩) hQ' (okP_setr hK hSS) (hL'.on rfl (fun r q1 q2 => rfl) (am_up_row _ _ _ _ (by decide)))
            refine ⟨by first | rfl | trivial, _, _, rfl, hfin, frM_tr hfr2 (fun x hx => ⟨(gfr.2 x (by omega) (by omega)).1, by rw [am_up_row _ _ _ _ (by omega)]; exact (gfr.2 x (by omega) (by omega)).2⟩)⟩
          · exact absurd c4 (by decide)
        · refine am_iconst (q := 50) (v := iZ 1) C dX11_rule_49 rfl rfl ?_
          refine am_goto (q := 54) C dX11_rule_50 (by decide) ?_
          refine am_putZ (q := 57) C fw_X11_131 dX11_rule_54 rfl rfl (Or.inr rfl) kk_191 (show 191 < 215 by decide) ?_
          refine am_aload_n (q := 58) C dX11_rule_57 rfl rfl ?_
          refine am_iconst (q := 59) (v := iZ 0) C dX11_rule_58 rfl rfl ?_
          refine am_putI (q := 62) C fw_X11_117 dX11_rule_59 rfl rfl kk_191 (show 191 < 215 by decide) ?_
          refine am_aload_n (q := 63) C dX11_rule_62 rfl rfl ?_
          refine am_getIe (q := 66) (v := (iZ 1)) C fb_X11_131 dX11_rule_63 rfl rfl kk_191 (show 191 < 215 by decide) (by rw [am_up_ne _ _ _ _ (Or.inr (by decide)), am_up_eq]) ?_
          refine am_ifZ_eq (q := 69) (tgt := 77) C dX11_rule_66 (by decide) rfl ⟨by omega, by omega⟩ (fun c5 => ?_) (fun c5 => ?_)
          · exact absurd c5 (by decide)
          · refine am_bipush (q := 71) (v := iZ (-100)) C dX11_rule_69 rfl rfl ?_
            refine am_aload_n (q := 72) C dX11_rule_71 rfl rfl ?_
            refine am_getIe (q := 75) (v := (iZ (s' : Int))) C fb_X11_125 dX11_rule_72 rfl rfl kk_191 (show 191 < 215 by decide) (by rw [am_up_ne _ _ _ _ (Or.inr (by decide)), am_up_ne _ _ _ _ (Or.inr (by decide))]; exact hP2.2.2.1) ?_
            refine am_isubZ (q := 76) C dX11_rule_75 rfl ?_
            refine am_iret C T dX11_rule_76 rfl (Nat.le_refl _) (Nat.le_refl _) ⟨_, rfl, ?_⟩
            have hp9 : 0 ≤ p ∧ p < pm σ.1 := by omega
            have hf : (rlA σ r).1 = (s' : Int) := by
              rw [hall, hG (rOp 0 r) rfl]
              exact P_stop hT hP2.2.1 rfl n7 n8 (fun _ => Nat.zero_lt_one) (Or.inl (by omega))
            have hcl := cl_at hM F8 (iZ 1)
            refine ⟨?_, _, _, rfl, ?_, hcl.2⟩
            · unfold ruleA; rw [if_pos hp9, hf, if_pos (by omega)]
            · unfold ruleT; rw [if_pos hp9, hf, if_pos (by omega)]; exact hcl.1
    · have hs' := hP2.2.1
      refine am_lstore_n (q := 30) (L' := [some (.ref 191), some (.int (iZ p)), some (.long v'), none]) C dX11_rule_29 rfl (by decide) rfl rfl ?_
      refine am_aload_n (q := 31) C dX11_rule_30 rfl rfl ?_
      refine am_aload_n (q := 32) C dX11_rule_31 rfl rfl ?_
      refine am_getIe (q := 35) (v := (iZ 1)) C fb_X11_131 dX11_rule_32 rfl rfl kk_191 (show 191 < 215 by decide) (hP2.2.2.2.2.trans rfl) ?_
      refine am_ifZ_ne (q := 38) (tgt := 49) C dX11_rule_35 (by decide) rfl ⟨by omega, by omega⟩ (fun c6 => ?_) (fun c6 => ?_)
      · refine am_iconst (q := 50) (v := iZ 1) C dX11_rule_49 rfl rfl ?_
        refine am_goto (q := 54) C dX11_rule_50 (by decide) ?_
        refine am_putZ (q := 57) C fw_X11_131 dX11_rule_54 rfl rfl (Or.inr rfl) kk_191 (show 191 < 215 by decide) ?_
        refine am_aload_n (q := 58) C dX11_rule_57 rfl rfl ?_
        refine am_iconst (q := 59) (v := iZ 0) C dX11_rule_58 rfl rfl ?_
        refine am_putI (q := 62) C fw_X11_117 dX11_rule_59 rfl rfl kk_191 (show 191 < 215 by decide) ?_
        refine am_aload_n (q := 63) C dX11_rule_62 rfl rfl ?_
        refine am_getIe (q := 66) (v := (iZ 1)) C fb_X11_131 dX11_rule_63 rfl rfl kk_191 (show 191 < 215 by decide) (by rw [am_up_ne _ _ _ _ (Or.inr (by decide)), am_up_eq]) ?_
        refine am_ifZ_eq (q := 69) (tgt := 77) C dX11_rule_66 (by decide) rfl ⟨by omega, by omega⟩ (fun c7 => ?_) (fun c7 => ?_)
        · exact absurd c7 (by decide)
        · refine am_bipush (q := 71) (v := iZ (-100)) C dX11_rule_69 rfl rfl ?_
          refine am_aload_n (q := 72) C dX11_rule_71 rfl rfl ?_
          refine am_getIe (q := 75) (v := (iZ (s' : Int))) C fb_X11_125 dX11_rule_72 rfl rfl kk_191 (show 191 < 215 by decide) (by rw [am_up_ne _ _ _ _ (Or.inr (by decide)), am_up_ne _ _ _ _ (Or.inr (by decide))]; exact hP2.2.2.1) ?_
          refine am_isubZ (q := 76) C dX11_rule_75 rfl ?_
          refine am_iret C T dX11_rule_76 rfl (Nat.le_refl _) (Nat.le_refl _) ⟨_, rfl, ?_⟩
          have hp9 : 0 ≤ p ∧ p < pm σ.1 := by omega
          have hf : (rlA σ r).1 = (s' : Int) := by
            rw [hall]
            exact hG (rOp 0 r) rfl
          have hcl := cl_at hM F8 (iZ 1)
          refine ⟨?_, _, _, rfl, ?_, hcl.2⟩
          · unfold ruleA; rw [if_pos hp9, hf, if_pos (by omega)]
          · unfold ruleT; rw [if_pos hp9, hf, if_pos (by omega)]; exact hcl.1
      · exact absurd c6 (by decide)
  · refine am_iconst (q := 9) (v := iZ (-1)) C dX11_rule_8 rfl rfl ?_
    refine am_iret C T dX11_rule_9 rfl (Nat.le_refl _) (Nat.le_refl _) ⟨_, rfl, ?_⟩
    unfold ruleA ruleT
    rw [if_neg (by omega), if_neg (by omega)]
    exact ⟨rfl, _, _, rfl, hM, frM_refl⟩
