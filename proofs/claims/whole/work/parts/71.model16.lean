variable {G : am_G} {I : Nat → Nat → Int32} {J : Nat → Nat → Int64}
theorem isS_lt (v : Int) : isS v < 2 ^ 61 := by
  unfold isS
  by_cases h : 0 ≤ v ∧ v ≤ 60
  · rw [if_pos h]; exact Nat.pow_lt_pow_right (by decide) (by omega)
  · rw [if_neg h]; decide
theorem psM_w {n s : Nat} {b : Nat → Nat} {wr wr' : Bool} {v : Int32} (h : psM I n b s wr) (hv : v = if wr' = true then 1 else 0) : psM (am_up I 191 24 v) n b s wr' := by
  obtain ⟨h1, h2, h3, h4, h5⟩ := h
  exact ⟨(frP_up frP_refl).B h1, h2, by rw [am_up_ne _ _ _ _ (Or.inr (by decide))]; exact h3, by rw [am_up_ne _ _ _ _ (Or.inr (by decide))]; exact h4, by rw [am_up_eq]; exact hv⟩
def OneQ (n : Nat) (b : Nat → Nat) (o s : Nat) (v : Int64) (I' : Nat → Nat → Int32) : Prop := (∃ S s', v = lN S ∧ S < 2 ^ 61 ∧ s ≤ s' ∧ tkA n b s' = s' ∧ psM I' n b s' false ∧ ∀ r : RS, r.1 = o → r.2.2.2.2.1 = 0 → Pg n b s r = Pg n b s' (rHold S r)) ∨ (∃ s', psM I' n b s' true ∧ ∀ r : RS, r.1 = o → r.2.2.2.2.1 = 0 → (Pg n b s r).1 = s')
def EvQ (n : Nat) (b : Nat → Nat) (o s : Nat) (v : Int64) (I' : Nat → Nat → Int32) : Prop := (∃ S s', v = lN S ∧ S < 2 ^ 61 ∧ s ≤ s' ∧ tkA n b s' = s' ∧ psM I' n b s' false ∧ (¬ spl b s' (tkZ n b s') 7 = true) ∧ ∀ r : RS, r.1 = o → r.2.2.2.2.1 = 0 → r.2.2.2.1 r.1 = false → Pg n b s r = Pg n b s' (rHold S r)) ∨ (∃ s', psM I' n b s' true ∧ ∀ r : RS, r.1 = o → r.2.2.2.2.1 = 0 → r.2.2.2.1 r.1 = false → (Pg n b s r).1 = s')
def SoQ (n : Nat) (b : Nat → Nat) (o s : Nat) (v : Int64) (I' : Nat → Nat → Int32) : Prop := (∃ A S s', v = lN (A ||| S) ∧ A < 2 ^ 61 ∧ S < 2 ^ 61 ∧ s ≤ s' ∧ tkA n b s' = s' ∧ psM I' n b s' false ∧ (¬ spl b s' (tkZ n b s') 7 = true) ∧ (¬ spl b s' (tkZ n b s') 8 = true) ∧ ∀ r : RS, r.1 = o → Pg n b s (rBeg 0 r) = Pg n b s' (rHold S (rBeg A r))) ∨ (∃ s', psM I' n b s' true ∧ ∀ r : RS, r.1 = o → (Pg n b s (rBeg 0 r)).1 = s')
def oneSp (G : am_G) (J : Nat → Nat → Int64) (n : Nat) (b : Nat → Nat) (o s : Nat) : Prop := ∀ I, psM I n b s false → tkA n b s = s → am_S G mX11_one (3 * (n - s) + 8) 0 0 [.ref 191, .int (iZ (o : Int))] (215, kK, kR, I, J) (am_ql (fun v w' => ∃ I' : Nat → Nat → Int32, w' = (215, kK, kR, I', J) ∧ frP I I' ∧ OneQ n b o s v I'))
def evSp (G : am_G) (J : Nat → Nat → Int64) (n : Nat) (b : Nat → Nat) (o s : Nat) : Prop := ∀ I, psM I n b s false → tkA n b s = s → am_S G mX11_every (3 * (n - s) + 9) 0 0 [.ref 191, .int (iZ (o : Int))] (215, kK, kR, I, J) (am_ql (fun v w' => ∃ I' : Nat → Nat → Int32, w' = (215, kK, kR, I', J) ∧ frP I I' ∧ EvQ n b o s v I'))
def soSp (G : am_G) (J : Nat → Nat → Int64) (n : Nat) (b : Nat → Nat) (o s : Nat) : Prop := ∀ I, psM I n b s false → tkA n b s = s → am_S G mX11_some (3 * (n - s) + 10) 0 0 [.ref 191, .int (iZ (o : Int))] (215, kK, kR, I, J) (am_ql (fun v w' => ∃ I' : Nat → Nat → Int32, w' = (215, kK, kR, I', J) ∧ frP I I' ∧ SoQ n b o s v I'))
set_option maxRecDepth 8000 in
theorem one_step {n : Nat} {b : Nat → Nat} {o s : Nat} (ho : o ≤ 4) (IH1 : ∀ s', s < s' → s' ≤ n → oneSp G J n b o s') (IH3 : o < 4 → ∀ s', s < s' → s' ≤ n → soSp G J n b (o + 1) s') : oneSp G J n b o s := by
  intro I P0 hA
  have hsn := P0.2.1
  have F0 : frP I I := frP_refl
  have hz := tkZ_le (b := b) hsn
  refine am_spec (plainFor_of_name (by decide +kernel)) (Nat.le_of_ble_eq_true rfl) (L := [some (.ref 191), some (.int (iZ (o : Int))), none, none]) rfl (fun X C T => ?_)
  refine am_aload_n (q := 1) C dX11_one_0 rfl rfl ?_
  refine am_sipush (q := 4) (v := iZ 10631) C dX11_one_1 rfl rfl ?_
  refine am_callV (q := 7) (As := [.int (iZ 10631)]) (rest := []) C mb_X11_takes im_X11_takes se_X11_takes ml_X11_142 cb_11 kk_191 (show 191 < 215 by decide) dX11_one_4 rfl (sp_X11_takes P0 (i := 0) ⟨by omega, by omega⟩ (hv_0 rfl hz.1 hz.2)) rfl rfl ⟨by show _ ≤ 3 * (n - s) + 8; omega, by show _ ≤ 64 * (3 * (n - s) + 8); omega⟩ ⟨Nat.le_refl _, Nat.le_refl _⟩ (Nat.le_of_ble_eq_true rfl) (am_ri (fun v' w' hw' => ?_))
  obtain ⟨rfl, I1, rfl, f1, P1⟩ := hw'
  have F1 := frP_tr F0 f1
  refine am_ifB_eq (q := 10) (tgt := 24) C dX11_one_7 (by decide) rfl (fun c1 => ?_) (fun c1 => ?_)
  · have q0 : ¬ (spl b s (tkZ n b s) 0 = true) := by assumption
    rw [if_neg q0] at P1
    refine am_aload_n (q := 25) C dX11_one_24 rfl rfl ?_
    refine am_sipush (q := 28) (v := iZ 1132) C dX11_one_25 rfl rfl ?_
    refine am_callV (q := 31) (As := [.int (iZ 1132)]) (rest := []) C mb_X11_takes im_X11_takes se_X11_takes ml_X11_142 cb_11 kk_191 (show 191 < 215 by decide) dX11_one_28 rfl (sp_X11_takes P1 (i := 1) ⟨by omega, by omega⟩ (hv_1 rfl hz.1 hz.2)) rfl rfl ⟨by show _ ≤ 3 * (n - s) + 8; omega, by show _ ≤ 64 * (3 * (n - s) + 8); omega⟩ ⟨Nat.le_refl _, Nat.le_refl _⟩ (Nat.le_of_ble_eq_true rfl) (am_ri (fun v' w' hw' => ?_))
    obtain ⟨rfl, I2, rfl, f2, P2⟩ := hw'
    have F2 := frP_tr F1 f2
    refine am_ifB_eq (q := 34) (tgt := 38) C dX11_one_31 (by decide) rfl (fun c2 => ?_) (fun c2 => ?_)
    · have q1 : ¬ (spl b s (tkZ n b s) 1 = true) := by assumption
      rw [if_neg q1] at P2
      refine am_aload_n (q := 39) C dX11_one_38 rfl rfl ?_
      refine am_ldc (q := 41) C dX11_one_39 rfl ck_X11_151 ?_
      refine am_intE (show _ = iZ (267347) from rfl) ?_
      refine am_callV (q := 44) (As := [.int (iZ 267347)]) (rest := []) C mb_X11_takes im_X11_takes se_X11_takes ml_X11_142 cb_11 kk_191 (show 191 < 215 by decide) dX11_one_41 rfl (sp_X11_takes P2 (i := 3) ⟨by omega, by omega⟩ (hv_3 rfl hz.1 hz.2)) rfl rfl ⟨by show _ ≤ 3 * (n - s) + 8; omega, by show _ ≤ 64 * (3 * (n - s) + 8); omega⟩ ⟨Nat.le_refl _, Nat.le_refl _⟩ (Nat.le_of_ble_eq_true rfl) (am_ri (fun v' w' hw' => ?_))
      obtain ⟨rfl, I3, rfl, f3, P3⟩ := hw'
      have F3 := frP_tr F2 f3
      refine am_ifB_eq (q := 47) (tgt := 56) C dX11_one_44 (by decide) rfl (fun c3 => ?_) (fun c3 => ?_)
      · have q3 : ¬ (spl b s (tkZ n b s) 3 = true) := by assumption
        rw [if_neg q3] at P3
        refine am_aload_n (q := 57) C dX11_one_56 rfl rfl ?_
        refine am_ldc (q := 59) C dX11_one_57 rfl ck_X11_158 ?_
        refine am_intE (show _ = iZ (6476969) from rfl) ?_
        refine am_callV (q := 62) (As := [.int (iZ 6476969)]) (rest := []) C mb_X11_takes im_X11_takes se_X11_takes ml_X11_142 cb_11 kk_191 (show 191 < 215 by decide) dX11_one_59 rfl (sp_X11_takes P3 (i := 4) ⟨by omega, by omega⟩ (hv_4 rfl hz.1 hz.2)) rfl rfl ⟨by show _ ≤ 3 * (n - s) + 8; omega, by show _ ≤ 64 * (3 * (n - s) + 8); omega⟩ ⟨Nat.le_refl _, Nat.le_refl _⟩ (Nat.le_of_ble_eq_true rfl) (am_ri (fun v' w' hw' => ?_))
        obtain ⟨rfl, I4, rfl, f4, P4⟩ := hw'
        have F4 := frP_tr F3 f4
        refine am_ifB_eq (q := 65) (tgt := 84) C dX11_one_62 (by decide) rfl (fun c4 => ?_) (fun c4 => ?_)
        · have q4 : ¬ (spl b s (tkZ n b s) 4 = true) := by assumption
          rw [if_neg q4] at P4
          refine am_aload_n (q := 85) C dX11_one_84 rfl rfl ?_
          refine am_bipush (q := 87) (v := iZ 79) C dX11_one_85 rfl rfl ?_
          refine am_callV (q := 90) (As := [.int (iZ 79)]) (rest := []) C mb_X11_takes im_X11_takes se_X11_takes ml_X11_142 cb_11 kk_191 (show 191 < 215 by decide) dX11_one_87 rfl (sp_X11_takes P4 (i := 5) ⟨by omega, by omega⟩ (hv_5 rfl hz.1 hz.2)) rfl rfl ⟨by show _ ≤ 3 * (n - s) + 8; omega, by show _ ≤ 64 * (3 * (n - s) + 8); omega⟩ ⟨Nat.le_refl _, Nat.le_refl _⟩ (Nat.le_of_ble_eq_true rfl) (am_ri (fun v' w' hw' => ?_))
          obtain ⟨rfl, I5, rfl, f5, P5⟩ := hw'
          have F5 := frP_tr F4 f5
          refine am_ifB_eq (q := 93) (tgt := 102) C dX11_one_90 (by decide) rfl (fun c5 => ?_) (fun c5 => ?_)
          · have q5 : ¬ (spl b s (tkZ n b s) 5 = true) := by assumption
            rw [if_neg q5] at P5
            refine am_aload_n (q := 103) C dX11_one_102 rfl rfl ?_
            refine am_sipush (q := 106) (v := iZ 262) C dX11_one_103 rfl rfl ?_
            refine am_callV (q := 109) (As := [.int (iZ 262)]) (rest := []) C mb_X11_takes im_X11_takes se_X11_takes ml_X11_142 cb_11 kk_191 (show 191 < 215 by decide) dX11_one_106 rfl (sp_X11_takes P5 (i := 6) ⟨by omega, by omega⟩ (hv_6 rfl hz.1 hz.2)) rfl rfl ⟨by show _ ≤ 3 * (n - s) + 8; omega, by show _ ≤ 64 * (3 * (n - s) + 8); omega⟩ ⟨Nat.le_refl _, Nat.le_refl _⟩ (Nat.le_of_ble_eq_true rfl) (am_ri (fun v' w' hw' => ?_))
            obtain ⟨rfl, I6, rfl, f6, P6⟩ := hw'
            have F6 := frP_tr F5 f6
            refine am_ifB_eq (q := 112) (tgt := 136) C dX11_one_109 (by decide) rfl (fun c6 => ?_) (fun c6 => ?_)
            · have q6 : ¬ (spl b s (tkZ n b s) 6 = true) := by assumption
              rw [if_neg q6] at P6
              refine am_iload_n (q := 137) C dX11_one_136 rfl rfl ?_
              refine am_iconst (q := 138) (v := iZ 4) C dX11_one_137 rfl rfl ?_
              refine am_icmpZ_ge (q := 141) (tgt := 185) C dX11_one_138 (by decide) rfl ⟨by omega, by omega⟩ ⟨by omega, by omega⟩ (fun c7 => ?_) (fun c7 => ?_)
              · refine am_aload_n (q := 186) C dX11_one_185 rfl rfl ?_
                refine am_iconst (q := 187) (v := iZ 1) C dX11_one_186 rfl rfl ?_
                refine am_putZ (q := 190) C fw_X11_131 dX11_one_187 rfl rfl (Or.inr rfl) kk_191 (show 191 < 215 by decide) ?_
                refine am_lconst (q := 191) (v := lN 0) C dX11_one_190 rfl rfl ?_
                refine am_lret C T dX11_one_191 rfl (Nat.le_refl _) (Nat.le_refl _) ⟨_, rfl, ?_⟩
                exact ⟨_, rfl, frP_up F6, Or.inr ⟨s, psM_w P6 rfl, fun r hr h0 => P_none hA hsn h0 q0 q1 q3 q4 q5 q6 (fun _ => by omega)⟩⟩
              · refine am_aload_n (q := 142) C dX11_one_141 rfl rfl ?_
                refine am_bipush (q := 144) (v := iZ 40) C dX11_one_142 rfl rfl ?_
                refine am_callV (q := 147) (As := [.int (iZ 40)]) (rest := []) C mb_X11_takesSign im_X11_takesSign se_X11_takesSign ml_X11_162 cb_11 kk_191 (show 191 < 215 by decide) dX11_one_144 rfl (sp_X11_takesSign P6 (i := 2) ⟨by omega, by omega⟩ (sgn_2 rfl hz.1 hz.2)) rfl rfl ⟨by show _ ≤ 3 * (n - s) + 8; omega, by show _ ≤ 64 * (3 * (n - s) + 8); omega⟩ ⟨Nat.le_refl _, Nat.le_refl _⟩ (Nat.le_of_ble_eq_true rfl) (am_ri (fun v' w' hw' => ?_))
                obtain ⟨rfl, I7, rfl, f7, P7⟩ := hw'
                have F7 := frP_tr F6 f7
                refine am_ifB_eq (q := 150) (tgt := 185) C dX11_one_147 (by decide) rfl (fun c8 => ?_) (fun c8 => ?_)
                · refine am_aload_n (q := 186) C dX11_one_185 rfl rfl ?_
                  refine am_iconst (q := 187) (v := iZ 1) C dX11_one_186 rfl rfl ?_
                  refine am_putZ (q := 190) C fw_X11_131 dX11_one_187 rfl rfl (Or.inr rfl) kk_191 (show 191 < 215 by decide) ?_
                  refine am_lconst (q := 191) (v := lN 0) C dX11_one_190 rfl rfl ?_
                  refine am_lret C T dX11_one_191 rfl (Nat.le_refl _) (Nat.le_refl _) ⟨_, rfl, ?_⟩
                  have q2 : ¬ (spl b s (tkZ n b s) 2 = true) := by assumption
                  rw [if_neg q2] at P7
                  exact ⟨_, rfl, frP_up F7, Or.inr ⟨s, psM_w P7 rfl, fun r hr h0 => P_none hA hsn h0 q0 q1 q3 q4 q5 q6 (fun z => absurd z q2)⟩⟩
                · have q2 : spl b s (tkZ n b s) 2 = true := by assumption
                  rw [if_pos q2] at P7
                  have hl := (spl_in hsn (by decide) q2).1
                  have hnx := nxP_lt (b := b) hl
                  have hnn := nxP_le (b := b) hsn
                  have hnt := nxP_tk (b := b) hsn
                  refine am_aload_n (q := 151) C dX11_one_150 rfl rfl ?_
                  refine am_iload_n (q := 152) C dX11_one_151 rfl rfl ?_
                  refine am_iconst (q := 153) (v := iZ 1) C dX11_one_152 rfl rfl ?_
                  refine am_iaddZ (q := 154) C dX11_one_153 rfl ?_
                  refine am_intE (y := (iZ ((o + 1 : Nat) : Int))) (congrArg iZ (by omega)) ?_
                  refine am_callV (q := 157) (As := [.int (iZ ((o + 1 : Nat) : Int))]) (rest := []) C mb_X11_some im_X11_some se_X11_some ml_X11_165 cb_11 kk_191 (show 191 < 215 by decide) dX11_one_154 rfl (IH3 (by omega) (nxP n b s) hnx hnn.2 I7 P7 hnt) rfl rfl ⟨by show _ ≤ 3 * (n - s) + 8; omega, by show _ ≤ 64 * (3 * (n - s) + 8); omega⟩ ⟨Nat.le_refl _, Nat.le_refl _⟩ (Nat.le_of_ble_eq_true rfl) (am_rl (fun v' w' hw' => ?_))
                  obtain ⟨I8, rfl, f8, hQ⟩ := hw'
                  have F8 := frP_tr F7 f8
                  refine am_lstore_n (q := 158) (L' := [some (.ref 191), some (.int (iZ (o : Int))), some (.long v'), none]) C dX11_one_157 rfl (by decide) rfl rfl ?_
                  rcases hQ with ⟨A, S, s', rfl, hA3, hS3, hle, hT, hP2, n7, n8, hG⟩ | ⟨s', hP2, hG⟩
                  · refine am_aload_n (q := 159) C dX11_one_158 rfl rfl ?_
                    refine am_aload_n (q := 160) C dX11_one_159 rfl rfl ?_
                    refine am_getIe (q := 163) (v := (iZ 0)) C fb_X11_131 dX11_one_160 rfl rfl kk_191 (show 191 < 215 by decide) (hP2.2.2.2.2.trans rfl) ?_
                    refine am_ifZ_ne (q := 166) (tgt := 175) C dX11_one_163 (by decide) rfl ⟨by omega, by omega⟩ (fun c9 => ?_) (fun c9 => ?_)
                    · exact absurd c9 (by decide)
                    · refine am_aload_n (q := 167) C dX11_one_166 rfl rfl ?_
                      refine am_bipush (q := 169) (v := iZ 41) C dX11_one_167 rfl rfl ?_
                      refine am_callV (q := 172) (As := [.int (iZ 41)]) (rest := [.ref 191]) C mb_X11_takesSign im_X11_takesSign se_X11_takesSign ml_X11_162 cb_11 kk_191 (show 191 < 215 by decide) dX11_one_169 rfl (sp_X11_takesSign hP2 (i := 9) ⟨by omega, by omega⟩ (sgn_9 rfl (tkZ_le (b := b) hP2.2.1).1 (tkZ_le (b := b) hP2.2.1).2)) rfl rfl ⟨by show _ ≤ 3 * (n - s) + 8; omega, by show _ ≤ 64 * (3 * (n - s) + 8); omega⟩ ⟨Nat.le_refl _, Nat.le_refl _⟩ (Nat.le_of_ble_eq_true rfl) (am_ri (fun v' w' hw' => ?_))
                      obtain ⟨rfl, I9, rfl, f9, P9⟩ := hw'
                      have F9 := frP_tr F8 f9
                      refine am_ifB_ne (q := 175) (tgt := 179) C dX11_one_172 (by decide) rfl (fun c10 => ?_) (fun c10 => ?_)
                      · refine am_iconst (q := 180) (v := iZ 0) C dX11_one_179 rfl rfl ?_
                        refine am_putZ (q := 183) C fw_X11_131 dX11_one_180 rfl rfl (Or.inl rfl) kk_191 (show 191 < 215 by decide) ?_
                        refine am_lload_n (q := 184) C dX11_one_183 rfl rfl ?_
                        refine am_lret C T dX11_one_184 rfl (Nat.le_refl _) (Nat.le_refl _) ⟨_, rfl, ?_⟩
                        have q9 : spl b s' (tkZ n b s') 9 = true := by assumption
                        rw [if_pos q9] at P9
                        have hl2 := hP2.2.1
                        refine ⟨_, rfl, frP_up F9, Or.inl ⟨A ||| S, _, rfl, Nat.or_lt_two_pow hA3 hS3, Nat.le_trans hnn.1 (Nat.le_trans hle (nxP_le hl2).1), nxP_tk hl2, psM_w P9 rfl, fun r hr h0 => ?_⟩⟩
                        rw [P_open hA hsn h0 (by omega) q2]
                        subst hr
                        rw [hG (rOp (r.1 + 1) r) rfl, P_close hT hl2 rfl (Nat.succ_le_succ (Nat.zero_le _)) q9]
                        exact Pg_eq (close_eq hS3)
                      · refine am_iconst (q := 176) (v := iZ 1) C dX11_one_175 rfl rfl ?_
                        refine am_goto (q := 180) C dX11_one_176 (by decide) ?_
                        refine am_putZ (q := 183) C fw_X11_131 dX11_one_180 rfl rfl (Or.inr rfl) kk_191 (show 191 < 215 by decide) ?_
                        refine am_lload_n (q := 184) C dX11_one_183 rfl rfl ?_
                        refine am_lret C T dX11_one_184 rfl (Nat.le_refl _) (Nat.le_refl _) ⟨_, rfl, ?_⟩
                        have q9 : ¬ (spl b s' (tkZ n b s') 9 = true) := by assumption
                        rw [if_neg q9] at P9
                        have hl2 := hP2.2.1
                        refine ⟨_, rfl, frP_up F9, Or.inr ⟨s', psM_w P9 rfl, fun r hr h0 => ?_⟩⟩
                        rw [P_open hA hsn h0 (by omega) q2]
                        subst hr
                        rw [hG (rOp (r.1 + 1) r) rfl]
                        exact P_stop hT hl2 rfl n7 n8 (fun z => absurd z q9) (Or.inr (Nat.succ_ne_zero _))
                  · refine am_aload_n (q := 159) C dX11_one_158 rfl rfl ?_
                    refine am_aload_n (q := 160) C dX11_one_159 rfl rfl ?_
                    refine am_getIe (q := 163) (v := (iZ 1)) C fb_X11_131 dX11_one_160 rfl rfl kk_191 (show 191 < 215 by decide) (hP2.2.2.2.2.trans rfl) ?_
                    refine am_ifZ_ne (q := 166) (tgt := 175) C dX11_one_163 (by decide) rfl ⟨by omega, by omega⟩ (fun c11 => ?_) (fun c11 => ?_)
                    · refine am_iconst (q := 176) (v := iZ 1) C dX11_one_175 rfl rfl ?_
                      refine am_goto (q := 180) C dX11_one_176 (by decide) ?_
                      refine am_putZ (q := 183) C fw_X11_131 dX11_one_180 rfl rfl (Or.inr rfl) kk_191 (show 191 < 215 by decide) ?_
                      refine am_lload_n (q := 184) C dX11_one_183 rfl rfl ?_
                      refine am_lret C T dX11_one_184 rfl (Nat.le_refl _) (Nat.le_refl _) ⟨_, rfl, ?_⟩
                      refine ⟨_, rfl, frP_up F8, Or.inr ⟨s', psM_w hP2 rfl, fun r hr h0 => ?_⟩⟩
                      rw [P_open hA hsn h0 (by omega) q2]
                      subst hr
                      exact hG (rOp (r.1 + 1) r) rfl
                    · exact absurd c11 (by decide)
            · have q6 : spl b s (tkZ n b s) 6 = true := by assumption
              rw [if_pos q6] at P6
              have hl := (spl_in hsn (by decide) q6).1
              have hnx := nxP_lt (b := b) hl
              have hnn := nxP_le (b := b) hsn
              have hnt := nxP_tk (b := b) hsn
              refine am_aload_n (q := 113) C dX11_one_112 rfl rfl ?_
              refine am_iconst (q := 114) (v := iZ 0) C dX11_one_113 rfl rfl ?_
              refine am_callV (q := 117) (As := [.int (iZ 0)]) (rest := []) C mb_X11_number im_X11_number se_X11_number ml_X11_152 cb_11 kk_191 (show 191 < 215 by decide) dX11_one_114 rfl (sp_X11_number P6 (least := 0) (Or.inl rfl)) rfl rfl ⟨by show _ ≤ 3 * (n - s) + 8; omega, by show _ ≤ 64 * (3 * (n - s) + 8); omega⟩ ⟨Nat.le_refl _, Nat.le_refl _⟩ (Nat.le_of_ble_eq_true rfl) (am_ri (fun v' w' hw' => ?_))
              obtain ⟨v, I9, rfl, hvr, rfl, f9, hN⟩ := hw'
              refine am_istore_n (q := 118) (L' := [some (.ref 191), some (.int (iZ (o : Int))), some (.int (iZ v)), none]) C dX11_one_117 rfl (by decide) rfl rfl ?_
              refine am_iload_n (q := 119) C dX11_one_118 rfl rfl ?_
              refine am_iconst (q := 120) (v := iZ 0) C dX11_one_119 rfl rfl ?_
              refine am_bipush (q := 122) (v := iZ 60) C dX11_one_120 rfl rfl ?_
              refine am_callS (q := 125) (As := [.int (iZ v), .int (iZ 0), .int (iZ 60)]) (rest := []) C mb_X11_in st_X11_in ml_X11_89 dX11_one_122 rfl (sp_X11_in (v := v) (a := 0) (b := 60) ⟨by omega, by omega⟩ ⟨by omega, by omega⟩ ⟨by omega, by omega⟩) rfl rfl ⟨by show _ ≤ 3 * (n - s) + 8; omega, by show _ ≤ 64 * (3 * (n - s) + 8); omega⟩ ⟨Nat.le_refl _, Nat.le_refl _⟩ (Nat.le_of_ble_eq_true rfl) (am_rie ?_)
              refine am_ifB_eq (q := 128) (tgt := 134) C dX11_one_125 (by decide) rfl (fun c12 => ?_) (fun c12 => ?_)
              · refine am_lconst (q := 135) (v := lN 0) C dX11_one_134 rfl rfl ?_
                refine am_lret C T dX11_one_135 rfl (Nat.le_refl _) (Nat.le_refl _) ⟨_, rfl, ?_⟩
                rcases hN with ⟨hok, hv, hP2⟩ | ⟨hno, hP2⟩
                · have htk := tkN_ok hok.1
                  have htl := hok.2
                  have hset : ∀ k : Nat, (k : Int) = tkN b (nxP n b s) (tkZ n b (nxP n b s)) → setN (fun j => psR 3 j k) 61 = isS v := fun k hk => by
                    have hvk : v = (k : Int) := by omega
                    rw [set_is k (by omega), hvk]
                  exact ⟨_, rfl, frP_tr F6 f9, Or.inl ⟨isS v, _, congrArg lN (if_neg (by omega)).symm, isS_lt v, Nat.le_trans hnn.1 (nxP_le hnn.2).1, nxP_tk hnn.2, hP2, fun r hr h0 => (P_t6 hA hsn h0 q6).trans (P_num hnt hnn.2 3 hok (isS v) hset)⟩⟩
                · refine ⟨_, rfl, frP_tr F6 f9, Or.inr ⟨_, hP2, fun r hr h0 => ?_⟩⟩
                  rw [P_t6 hA hsn h0 q6]
                  exact P_nonum hnt hnn.2 3 hno
              · refine am_lconst (q := 129) (v := lN 1) C dX11_one_128 rfl rfl ?_
                refine am_iload_n (q := 130) C dX11_one_129 rfl rfl ?_
                refine am_lshl (q := 131) C dX11_one_130 rfl ?_
                refine am_longE (y := (lN (2 ^ v.toNat))) ((congrArg (jshlL (lN 1)) (congrArg iZ (show v = ((v.toNat : Nat) : Int) by omega))).trans (shl_one (by omega))) ?_
                refine am_goto (q := 135) C dX11_one_131 (by decide) ?_
                refine am_lret C T dX11_one_135 rfl (Nat.le_refl _) (Nat.le_refl _) ⟨_, rfl, ?_⟩
                rcases hN with ⟨hok, hv, hP2⟩ | ⟨hno, hP2⟩
                · have htk := tkN_ok hok.1
                  have htl := hok.2
                  have hset : ∀ k : Nat, (k : Int) = tkN b (nxP n b s) (tkZ n b (nxP n b s)) → setN (fun j => psR 3 j k) 61 = isS v := fun k hk => by
                    have hvk : v = (k : Int) := by omega
                    rw [set_is k (by omega), hvk]
                  exact ⟨_, rfl, frP_tr F6 f9, Or.inl ⟨isS v, _, congrArg lN (if_pos (by omega)).symm, isS_lt v, Nat.le_trans hnn.1 (nxP_le hnn.2).1, nxP_tk hnn.2, hP2, fun r hr h0 => (P_t6 hA hsn h0 q6).trans (P_num hnt hnn.2 3 hok (isS v) hset)⟩⟩
                · refine ⟨_, rfl, frP_tr F6 f9, Or.inr ⟨_, hP2, fun r hr h0 => ?_⟩⟩
                  rw [P_t6 hA hsn h0 q6]
                  exact P_nonum hnt hnn.2 3 hno
          · have q5 : spl b s (tkZ n b s) 5 = true := by assumption
            rw [if_pos q5] at P5
            have hl := (spl_in hsn (by decide) q5).1
            have hnx := nxP_lt (b := b) hl
            have hnn := nxP_le (b := b) hsn
            have hnt := nxP_tk (b := b) hsn
            refine am_aload_n (q := 94) C dX11_one_93 rfl rfl ?_
            refine am_iconst (q := 95) (v := iZ 1) C dX11_one_94 rfl rfl ?_
            refine am_callV (q := 98) (As := [.int (iZ 1)]) (rest := []) C mb_X11_number im_X11_number se_X11_number ml_X11_152 cb_11 kk_191 (show 191 < 215 by decide) dX11_one_95 rfl (sp_X11_number P5 (least := 1) (Or.inr rfl)) rfl rfl ⟨by show _ ≤ 3 * (n - s) + 8; omega, by show _ ≤ 64 * (3 * (n - s) + 8); omega⟩ ⟨Nat.le_refl _, Nat.le_refl _⟩ (Nat.le_of_ble_eq_true rfl) (am_ri (fun v' w' hw' => ?_))
            obtain ⟨v, I9, rfl, hvr, rfl, f9, hN⟩ := hw'
            refine am_callS (q := 101) (As := [.int (iZ v)]) (rest := []) C mb_X11_multiples st_X11_multiples ml_X11_159 dX11_one_98 rfl (sp_X11_multiples (v := v) ⟨by omega, by omega⟩ hvr.2) rfl rfl ⟨by show _ ≤ 3 * (n - s) + 8; omega, by show _ ≤ 64 * (3 * (n - s) + 8); omega⟩ ⟨Nat.le_refl _, Nat.le_refl _⟩ (Nat.le_of_ble_eq_true rfl) (am_rle ?_)
            refine am_lret C T dX11_one_101 rfl (Nat.le_refl _) (Nat.le_refl _) ⟨_, rfl, ?_⟩
            rcases hN with ⟨hok, hv, hP2⟩ | ⟨hno, hP2⟩
            · have htk := tkN_ok hok.1
              have htl := hok.2
              have hset : ∀ k : Nat, (k : Int) = tkN b (nxP n b s) (tkZ n b (nxP n b s)) → setN (fun j => psR 2 j k) 61 = mulS v := fun k hk => by
                have hvk : v = (k : Int) := by omega
                rw [set_by k (by omega) (by omega), hvk]
              have hlt : mulS v < 2 ^ 61 := by rw [← hset v.toNat (by omega)]; exact setN_lt _ 61
              exact ⟨_, rfl, frP_tr F5 f9, Or.inl ⟨mulS v, _, rfl, hlt, Nat.le_trans hnn.1 (nxP_le hnn.2).1, nxP_tk hnn.2, hP2, fun r hr h0 => (P_t5 hA hsn h0 q5).trans (P_num hnt hnn.2 2 hok (mulS v) hset)⟩⟩
            · refine ⟨_, rfl, frP_tr F5 f9, Or.inr ⟨_, hP2, fun r hr h0 => ?_⟩⟩
              rw [P_t5 hA hsn h0 q5]
              exact P_nonum hnt hnn.2 2 hno
        · have q4 : spl b s (tkZ n b s) 4 = true := by assumption
          rw [if_pos q4] at P4
          have hl := (spl_in hsn (by decide) q4).1
          have hnx := nxP_lt (b := b) hl
          have hnn := nxP_le (b := b) hsn
          have hnt := nxP_tk (b := b) hsn
          refine am_ldc2 (q := 68) C dX11_one_65 rfl ck_X11_99 ?_
          refine am_longE (y := lN 2305843009213693951) rfl ?_
          refine am_aload_n (q := 69) C dX11_one_68 rfl rfl ?_
          refine am_iconst (q := 70) (v := iZ 0) C dX11_one_69 rfl rfl ?_
          refine am_callV (q := 73) (As := [.int (iZ 0)]) (rest := [.long (lN 2305843009213693951)]) C mb_X11_number im_X11_number se_X11_number ml_X11_152 cb_11 kk_191 (show 191 < 215 by decide) dX11_one_70 rfl (sp_X11_number P4 (least := 0) (Or.inl rfl)) rfl rfl ⟨by show _ ≤ 3 * (n - s) + 8; omega, by show _ ≤ 64 * (3 * (n - s) + 8); omega⟩ ⟨Nat.le_refl _, Nat.le_refl _⟩ (Nat.le_of_ble_eq_true rfl) (am_ri (fun v' w' hw' => ?_))
          obtain ⟨v, I9, rfl, hvr, rfl, f9, hN⟩ := hw'
          refine am_iconst (q := 74) (v := iZ 1) C dX11_one_73 rfl rfl ?_
          refine am_isubZ (q := 75) C dX11_one_74 rfl ?_
          refine am_callS (q := 78) (As := [.int (iZ (v - 1))]) (rest := [.long (lN 2305843009213693951)]) C mb_X11_upTo st_X11_upTo ml_X11_155 dX11_one_75 rfl (sp_X11_upTo (v := v - 1) ⟨by omega, by omega⟩) rfl rfl ⟨by show _ ≤ 3 * (n - s) + 8; omega, by show _ ≤ 64 * (3 * (n - s) + 8); omega⟩ ⟨Nat.le_refl _, Nat.le_refl _⟩ (Nat.le_of_ble_eq_true rfl) (am_rle ?_)
          refine am_ldc2 (q := 81) C dX11_one_78 rfl ck_X11_149 ?_
          refine am_lxor (q := 82) C dX11_one_81 rfl ?_
          refine am_land (q := 83) C dX11_one_82 rfl ?_
          refine am_lret C T dX11_one_83 rfl (Nat.le_refl _) (Nat.le_refl _) ⟨_, rfl, ?_⟩
          rcases hN with ⟨hok, hv, hP2⟩ | ⟨hno, hP2⟩
          · have htk := tkN_ok hok.1
            have htl := hok.2
            have hset : ∀ k : Nat, (k : Int) = tkN b (nxP n b s) (tkZ n b (nxP n b s)) → setN (fun j => psR 1 j k) 61 = anyS - upS (v - 1) := fun k hk => by
              have hvk : v = (k : Int) := by omega
              rw [set_least k (by omega), hvk]
            exact ⟨_, rfl, frP_tr F4 f9, Or.inl ⟨anyS - upS (v - 1), _, any_not (upS_lt _), by have : anyS = 2 ^ 61 - 1 := rfl; omega, Nat.le_trans hnn.1 (nxP_le hnn.2).1, nxP_tk hnn.2, hP2, fun r hr h0 => (P_t4 hA hsn h0 q4).trans (P_num hnt hnn.2 1 hok (anyS - upS (v - 1)) hset)⟩⟩
          · refine ⟨_, rfl, frP_tr F4 f9, Or.inr ⟨_, hP2, fun r hr h0 => ?_⟩⟩
            rw [P_t4 hA hsn h0 q4]
            exact P_nonum hnt hnn.2 1 hno
      · have q3 : spl b s (tkZ n b s) 3 = true := by assumption
        rw [if_pos q3] at P3
        have hl := (spl_in hsn (by decide) q3).1
        have hnx := nxP_lt (b := b) hl
        have hnn := nxP_le (b := b) hsn
        have hnt := nxP_tk (b := b) hsn
        refine am_aload_n (q := 48) C dX11_one_47 rfl rfl ?_
        refine am_iconst (q := 49) (v := iZ 0) C dX11_one_48 rfl rfl ?_
        refine am_callV (q := 52) (As := [.int (iZ 0)]) (rest := []) C mb_X11_number im_X11_number se_X11_number ml_X11_152 cb_11 kk_191 (show 191 < 215 by decide) dX11_one_49 rfl (sp_X11_number P3 (least := 0) (Or.inl rfl)) rfl rfl ⟨by show _ ≤ 3 * (n - s) + 8; omega, by show _ ≤ 64 * (3 * (n - s) + 8); omega⟩ ⟨Nat.le_refl _, Nat.le_refl _⟩ (Nat.le_of_ble_eq_true rfl) (am_ri (fun v' w' hw' => ?_))
        obtain ⟨v, I9, rfl, hvr, rfl, f9, hN⟩ := hw'
        refine am_callS (q := 55) (As := [.int (iZ v)]) (rest := []) C mb_X11_upTo st_X11_upTo ml_X11_155 dX11_one_52 rfl (sp_X11_upTo (v := v) ⟨by omega, by omega⟩) rfl rfl ⟨by show _ ≤ 3 * (n - s) + 8; omega, by show _ ≤ 64 * (3 * (n - s) + 8); omega⟩ ⟨Nat.le_refl _, Nat.le_refl _⟩ (Nat.le_of_ble_eq_true rfl) (am_rle ?_)
        refine am_lret C T dX11_one_55 rfl (Nat.le_refl _) (Nat.le_refl _) ⟨_, rfl, ?_⟩
        rcases hN with ⟨hok, hv, hP2⟩ | ⟨hno, hP2⟩
        · have htk := tkN_ok hok.1
          have htl := hok.2
          have hset : ∀ k : Nat, (k : Int) = tkN b (nxP n b s) (tkZ n b (nxP n b s)) → setN (fun j => psR 0 j k) 61 = upS v := fun k hk => by
            have hvk : v = (k : Int) := by omega
            rw [set_up k (by omega), hvk]
          exact ⟨_, rfl, frP_tr F3 f9, Or.inl ⟨upS v, _, rfl, upS_lt v, Nat.le_trans hnn.1 (nxP_le hnn.2).1, nxP_tk hnn.2, hP2, fun r hr h0 => (P_t3 hA hsn h0 q3).trans (P_num hnt hnn.2 0 hok (upS v) hset)⟩⟩
        · refine ⟨_, rfl, frP_tr F3 f9, Or.inr ⟨_, hP2, fun r hr h0 => ?_⟩⟩
          rw [P_t3 hA hsn h0 q3]
          exact P_nonum hnt hnn.2 0 hno
    · have q1 : spl b s (tkZ n b s) 1 = true := by assumption
      rw [if_pos q1] at P2
      have hl := (spl_in hsn (by decide) q1).1
      have hnx := nxP_lt (b := b) hl
      have hnn := nxP_le (b := b) hsn
      have hnt := nxP_tk (b := b) hsn
      refine am_ldc2 (q := 37) C dX11_one_34 rfl ck_X11_99 ?_
      refine am_longE (y := lN 2305843009213693951) rfl ?_
      refine am_lret C T dX11_one_37 rfl (Nat.le_refl _) (Nat.le_refl _) ⟨_, rfl, ?_⟩
      exact ⟨_, rfl, F2, Or.inl ⟨anyS, _, rfl, by decide, hnn.1, hnt, P2, fun r hr h0 => P_any hA hsn h0 q1⟩⟩
  · have q0 : spl b s (tkZ n b s) 0 = true := by assumption
    rw [if_pos q0] at P1
    have hl := (spl_in hsn (by decide) q0).1
    have hnx := nxP_lt (b := b) hl
    have hnn := nxP_le (b := b) hsn
    have hnt := nxP_tk (b := b) hsn
    refine am_ldc2 (q := 13) C dX11_one_10 rfl ck_X11_99 ?_
    refine am_longE (y := lN 2305843009213693951) rfl ?_
    refine am_aload_n (q := 14) C dX11_one_13 rfl rfl ?_
    refine am_iload_n (q := 15) C dX11_one_14 rfl rfl ?_
    refine am_callV (q := 18) (As := [.int (iZ (o : Int))]) (rest := [.long (lN 2305843009213693951)]) C mb_X11_one im_X11_one se_X11_one ml_X11_145 cb_11 kk_191 (show 191 < 215 by decide) dX11_one_15 rfl (IH1 (nxP n b s) hnx hnn.2 I1 P1 hnt) rfl rfl ⟨by show _ ≤ 3 * (n - s) + 8; omega, by show _ ≤ 64 * (3 * (n - s) + 8); omega⟩ ⟨Nat.le_refl _, Nat.le_refl _⟩ (Nat.le_of_ble_eq_true rfl) (am_rl (fun v' w' hw' => ?_))
    obtain ⟨I9, rfl, f9, hQ⟩ := hw'
    refine am_ldc2 (q := 21) C dX11_one_18 rfl ck_X11_149 ?_
    refine am_lxor (q := 22) C dX11_one_21 rfl ?_
    refine am_land (q := 23) C dX11_one_22 rfl ?_
    refine am_lret C T dX11_one_23 rfl (Nat.le_refl _) (Nat.le_refl _) ⟨_, rfl, ?_⟩
    rcases hQ with ⟨S, s', rfl, hS, hle, hT, hP2, hG⟩ | ⟨s', hP2, hG⟩
    · refine ⟨_, rfl, frP_tr F1 f9, Or.inl ⟨anyS - S, s', any_not hS, by have : anyS = 2 ^ 61 - 1 := rfl; omega, by omega, hT, hP2, fun r hr h0 => ?_⟩⟩
      rw [P_not hA hsn h0 q0, hG (rDeny r) hr h0, hold_deny hS]
    · refine ⟨_, rfl, frP_tr F1 f9, Or.inr ⟨s', hP2, fun r hr h0 => ?_⟩⟩
      rw [P_not hA hsn h0 q0]
      exact hG (rDeny r) hr h0
