variable {G : am_G} {I : Nat → Nat → Int32} {J : Nat → Nat → Int64}
set_option maxRecDepth 4000 in
theorem sp_X11_keep {σ : SG} (hM : atM I J σ) : am_S G mX11_keep 1 0 0 [.ref 191] (215, kK, kR, I, J) (am_qi (fun v w' => v = iZ 1 ∧ ∃ (I' : Nat → Nat → Int32) (J' : Nat → Nat → Int64), w' = (215, kK, kR, I', J') ∧ atM I' J' (σ.1, σ.2.1, ((σ.1, true, σ.2.2.2.1), σ.2.2.2.1, σ.2.2.2.2)) ∧ frM I J I' J')) := by
  have hQ := hM.1
  have hK := hM.2.1
  have hm := hM.2.1.1
  have hL := hM.2.2.1
  refine am_spec (plainFor_of_name (by decide +kernel)) (Nat.le_of_ble_eq_true rfl) (L := [some (.ref 191), none]) rfl (fun X C T => ?_)
  have lp : ∀ (fuel : Nat) (p : Nat) (I1 : Nat → Nat → Int32) (J1 : Nat → Nat → Int64), (p ≤ 6) → (∀ x, x < 196 ∨ 198 < x → I1 x = I x) → (∀ x, x ≠ 199 → J1 x = J x) → (∀ q, q < p → I1 196 q = I 192 q ∧ I1 197 q = I 193 q ∧ I1 198 q = I 194 q ∧ J1 199 q = J 195 q) → (6 - p) < fuel → (∀ (I1 : Nat → Nat → Int32) (J1 : Nat → Nat → Int64), (∀ x, x < 196 ∨ 198 < x → I1 x = I x) → (∀ x, x ≠ 199 → J1 x = J x) → (∀ q, q < 6 → I1 196 q = I 192 q ∧ I1 197 q = I 193 q ∧ I1 198 q = I 194 q ∧ J1 199 q = J 195 q) → am_A G mX11_keep X (am_rm 1 0 0) 62 [some (.ref 191), none] [] (215, kK, kR, I1, J1) 0 0) → am_A G mX11_keep X (am_rm 1 0 0) 2 [some (.ref 191), some (.int (iZ (p : Int)))] [] (215, kK, kR, I1, J1) 0 0 := by
    intro fuel
    induction fuel with
    | zero => intro p I1 J1 hp hI hJ hc hfu hk9; exact absurd hfu (Nat.not_lt_zero _)
    | succ fuel ih =>
      intro p I1 J1 hp hI hJ hc hfu hk9
      refine am_iload_n (q := 3) C dX11_keep_2 rfl rfl ?_
      refine am_bipush (q := 5) (v := iZ 6) C dX11_keep_3 rfl rfl ?_
      refine am_icmpZ_ge (q := 8) (tgt := 62) C dX11_keep_5 (by decide) rfl ⟨by omega, by omega⟩ ⟨by omega, by omega⟩ (fun e1 => ?_) (fun e1 => ?_)
      · refine am_wkA (L1 := [some (.ref 191), none]) ⟨rfl, trivial⟩ ?_
        exact hk9 I1 J1 hI hJ (fun q hq => hc q (by omega))
      · refine am_aload_n (q := 9) C dX11_keep_8 rfl rfl ?_
        refine am_getR (q := 12) C fb_X11_29 dX11_keep_9 rfl rfl kk_191 (show 191 < 215 by decide) kr_191_8 ?_
        refine am_iload_n (q := 13) C dX11_keep_12 rfl rfl ?_
        refine am_aload_n (q := 14) C dX11_keep_13 rfl rfl ?_
        refine am_getR (q := 17) C fb_X11_15 dX11_keep_14 rfl rfl kk_191 (show 191 < 215 by decide) kr_191_4 ?_
        refine am_iload_n (q := 18) C dX11_keep_17 rfl rfl ?_
        refine am_ialoadZ (q := 19) p C dX11_keep_18 rfl kk_192 (show 192 < 215 by decide) rfl (by omega) (by decide) ?_
        refine am_intE (y := (I 192 p)) (by rw [hI 192 (by decide)]) ?_
        refine am_iastoreZ (q := 20) p C dX11_keep_19 rfl kk_196 (show 196 < 215 by decide) rfl (by omega) (by decide) ?_
        refine am_aload_n (q := 21) C dX11_keep_20 rfl rfl ?_
        refine am_getR (q := 24) C fb_X11_32 dX11_keep_21 rfl rfl kk_191 (show 191 < 215 by decide) kr_191_9 ?_
        refine am_iload_n (q := 25) C dX11_keep_24 rfl rfl ?_
        refine am_aload_n (q := 26) C dX11_keep_25 rfl rfl ?_
        refine am_getR (q := 29) C fb_X11_19 dX11_keep_26 rfl rfl kk_191 (show 191 < 215 by decide) kr_191_5 ?_
        refine am_iload_n (q := 30) C dX11_keep_29 rfl rfl ?_
        refine am_ialoadZ (q := 31) p C dX11_keep_30 rfl kk_193 (show 193 < 215 by decide) rfl (by omega) (by decide) ?_
        refine am_intE (y := (I 193 p)) (by rw [am_up_row _ _ _ _ (by decide), hI 193 (by decide)]) ?_
        refine am_iastoreZ (q := 32) p C dX11_keep_31 rfl kk_197 (show 197 < 215 by decide) rfl (by omega) (by decide) ?_
        refine am_aload_n (q := 33) C dX11_keep_32 rfl rfl ?_
        refine am_getR (q := 36) C fb_X11_35 dX11_keep_33 rfl rfl kk_191 (show 191 < 215 by decide) kr_191_10 ?_
        refine am_iload_n (q := 37) C dX11_keep_36 rfl rfl ?_
        refine am_aload_n (q := 38) C dX11_keep_37 rfl rfl ?_
        refine am_getR (q := 41) C fb_X11_22 dX11_keep_38 rfl rfl kk_191 (show 191 < 215 by decide) kr_191_6 ?_
        refine am_iload_n (q := 42) C dX11_keep_41 rfl rfl ?_
        refine am_ialoadZ (q := 43) p C dX11_keep_42 rfl kk_194 (show 194 < 215 by decide) rfl (by omega) (by decide) ?_
        refine am_intE (y := (I 194 p)) (by rw [am_up_row _ _ _ _ (by decide), am_up_row _ _ _ _ (by decide), hI 194 (by decide)]) ?_
        refine am_iastoreZ (q := 44) p C dX11_keep_43 rfl kk_198 (show 198 < 215 by decide) rfl (by omega) (by decide) ?_
        refine am_aload_n (q := 45) C dX11_keep_44 rfl rfl ?_
        refine am_getR (q := 48) C fb_X11_38 dX11_keep_45 rfl rfl kk_191 (show 191 < 215 by decide) kr_191_11 ?_
        refine am_iload_n (q := 49) C dX11_keep_48 rfl rfl ?_
        refine am_aload_n (q := 50) C dX11_keep_49 rfl rfl ?_
        refine am_getR (q := 53) C fb_X11_25 dX11_keep_50 rfl rfl kk_191 (show 191 < 215 by decide) kr_191_7 ?_
        refine am_iload_n (q := 54) C dX11_keep_53 rfl rfl ?_
        refine am_laloadZ (q := 55) p C dX11_keep_54 rfl kk_195 (show 195 < 215 by decide) rfl (by omega) (by decide) ?_
        refine am_longE (y := (J 195 p)) (by rw [hJ 195 (by decide)]) ?_
        refine am_lastoreZ (q := 56) p C dX11_keep_55 rfl kk_199 (show 199 < 215 by decide) rfl (by omega) (by decide) ?_
        refine am_iincZ (q := 59) (L' := [some (.ref 191), some (.int (iZ ((p + 1 : Nat) : Int)))]) C dX11_keep_56 rfl rfl (by omega) (by decide) rfl rfl ?_
        refine am_goto (q := 2) C dX11_keep_59 (by decide) ?_
        refine ih (p + 1) _ _ (by omega) (fun x hx => ?_) (fun x hx => ?_) (fun q hq => ?_) (by omega) hk9
        · rw [am_up_row _ _ _ _ (by omega), am_up_row _ _ _ _ (by omega), am_up_row _ _ _ _ (by omega)]; exact hI x hx
        · rw [am_up_row _ _ _ _ hx]; exact hJ x hx
        · by_cases e : q = p
          · subst e; simp [am_up]
          · have h1 := hc q (by omega)
            simp [am_up, e]; exact h1
  refine am_iconst (q := 1) (v := iZ 0) C dX11_keep_0 rfl rfl ?_
  refine am_istore_n (q := 2) (L' := [some (.ref 191), some (.int (iZ 0))]) C dX11_keep_1 rfl (by decide) rfl rfl ?_
  refine lp 7 0 I J (by omega) (fun x _ => rfl) (fun x _ => rfl) (fun q hq => absurd hq (Nat.not_lt_zero _)) (by omega) (fun I1 J1 hI hJ hc => ?_)
  refine am_aload_n (q := 63) C dX11_keep_62 rfl rfl ?_
  refine am_aload_n (q := 64) C dX11_keep_63 rfl rfl ?_
  refine am_getIe (q := 67) (v := (iZ (pm σ.1 : Int))) C fb_X11_86 dX11_keep_64 rfl rfl kk_191 (show 191 < 215 by decide) (by rw [hI 191 (by decide)]; exact hQ.1) ?_
  refine am_putI (q := 70) C fw_X11_325 dX11_keep_67 rfl rfl kk_191 (show 191 < 215 by decide) ?_
  refine am_aload_n (q := 71) C dX11_keep_70 rfl rfl ?_
  refine am_aload_n (q := 72) C dX11_keep_71 rfl rfl ?_
  refine am_getIe (q := 75) (v := σ.2.2.2.1) C fb_X11_9 dX11_keep_72 rfl rfl kk_191 (show 191 < 215 by decide) (by rw [am_up_ne _ _ _ _ (Or.inr (by decide)), hI 191 (by decide)]; exact hM.2.2.2.1) ?_
  refine am_putI (q := 78) C fw_X11_328 dX11_keep_75 rfl rfl kk_191 (show 191 < 215 by decide) ?_
  refine am_aload_n (q := 79) C dX11_keep_78 rfl rfl ?_
  refine am_iconst (q := 80) (v := iZ 1) C dX11_keep_79 rfl rfl ?_
  refine am_putZ (q := 83) C fw_X11_331 dX11_keep_80 rfl rfl (Or.inr rfl) kk_191 (show 191 < 215 by decide) ?_
  refine am_iconst (q := 84) (v := iZ 1) C dX11_keep_83 rfl rfl ?_
  refine am_iret C T dX11_keep_84 rfl (Nat.le_refl _) (Nat.le_refl _) ⟨_, rfl, ?_⟩
  obtain ⟨m1, m2, m3, m4, m5, m6, m7, m8⟩ := hM
  refine ⟨rfl, _, _, rfl, ⟨m1.on (by rw [am_up_ne _ _ _ _ (Or.inr (by decide)), am_up_ne _ _ _ _ (Or.inr (by decide)), am_up_ne _ _ _ _ (Or.inr (by decide)), hI 191 (by decide)]) (by rw [am_up_row _ _ _ _ (by decide), am_up_row _ _ _ _ (by decide), am_up_row _ _ _ _ (by decide), hI 192 (by decide)]) (by rw [am_up_row _ _ _ _ (by decide), am_up_row _ _ _ _ (by decide), am_up_row _ _ _ _ (by decide), hI 193 (by decide)]) (by rw [am_up_row _ _ _ _ (by decide), am_up_row _ _ _ _ (by decide), am_up_row _ _ _ _ (by decide), hI 194 (by decide)]) (hJ 195 (by decide)), m2, m3.on (by rw [am_up_ne _ _ _ _ (Or.inr (by decide)), am_up_ne _ _ _ _ (Or.inr (by decide)), am_up_ne _ _ _ _ (Or.inr (by decide)), hI 191 (by decide)]) (fun r g1 g2 => by rw [am_up_row _ _ _ _ (by omega), am_up_row _ _ _ _ (by omega), am_up_row _ _ _ _ (by omega), hI r (by omega)]) (hJ 205 (by decide)), ?_, ?_, fun _ => ⟨?_, ?_, m2, fun p hp => ?_⟩, m7.on (by rw [am_up_ne _ _ _ _ (Or.inr (by decide)), am_up_ne _ _ _ _ (Or.inr (by decide)), am_up_ne _ _ _ _ (Or.inr (by decide)), hI 191 (by decide)]) (by rw [am_up_row _ _ _ _ (by decide), am_up_row _ _ _ _ (by decide), am_up_row _ _ _ _ (by decide), hI 206 (by decide)]), fun i hi => (m8 i hi).on (by rw [am_up_row _ _ _ _ (by decide), am_up_row _ _ _ _ (by decide), am_up_row _ _ _ _ (by decide), hI 212 (by decide)]) (by rw [am_up_row _ _ _ _ (by decide), am_up_row _ _ _ _ (by decide), am_up_row _ _ _ _ (by decide), hI 213 (by decide)]) (hJ 214 (by decide))⟩, fun x hx => ⟨by rw [am_up_row _ _ _ _ (by omega), am_up_row _ _ _ _ (by omega), am_up_row _ _ _ _ (by omega), hI x (by omega)], hJ x (by omega)⟩⟩
  · rw [am_up_ne _ _ _ _ (Or.inr (by decide)), am_up_ne _ _ _ _ (Or.inr (by decide)), am_up_ne _ _ _ _ (Or.inr (by decide)), hI 191 (by decide)]; exact m4
  · rw [am_up_eq]; rfl
  · rw [am_up_ne _ _ _ _ (Or.inr (by decide)), am_up_ne _ _ _ _ (Or.inr (by decide)), am_up_eq]
  · rw [am_up_ne _ _ _ _ (Or.inr (by decide)), am_up_eq]
  · obtain ⟨c1, c2, c3, c4⟩ := hc p (by have : p < pm σ.1 := hp; omega)
    obtain ⟨q1, q2, q3, q4⟩ := m1.2 p hp
    rw [am_up_row _ _ _ _ (by decide), am_up_row _ _ _ _ (by decide), am_up_row _ _ _ _ (by decide), am_up_row _ _ _ _ (by decide), am_up_row _ _ _ _ (by decide), am_up_row _ _ _ _ (by decide), am_up_row _ _ _ _ (by decide), am_up_row _ _ _ _ (by decide), am_up_row _ _ _ _ (by decide)]
    exact ⟨c1.trans q1, c2.trans q2, c3.trans q3, c4.trans q4⟩
set_option maxRecDepth 4000 in
theorem sp_X11_again {σ : SG} (hM : atM I J σ) : am_S G mX11_again 1 0 0 [.ref 191] (215, kK, kR, I, J) (am_qi (fun v w' => v = iZ (if σ.2.2.1.2.1 = true then (pm σ.2.2.1.1 : Int) else -3) ∧ ∃ (I' : Nat → Nat → Int32) (J' : Nat → Nat → Int64), w' = (215, kK, kR, I', J') ∧ atM I' J' (if σ.2.2.1.2.1 = true then (σ.2.2.1.1, (0, σ.2.1.2), (σ.2.2.1, σ.2.2.1.2.2, σ.2.2.2.2)) else σ) ∧ frM I J I' J')) := by
  have hQ := hM.1
  have hK := hM.2.1
  have hm := hM.2.1.1
  have hL := hM.2.2.1
  refine am_spec (plainFor_of_name (by decide +kernel)) (Nat.le_of_ble_eq_true rfl) (L := [some (.ref 191), none]) rfl (fun X C T => ?_)
  have lp : ∀ (fuel : Nat) (p : Nat) (I1 : Nat → Nat → Int32) (J1 : Nat → Nat → Int64), (p ≤ 6) → (∀ x, x < 192 ∨ 194 < x → I1 x = I x) → (∀ x, x ≠ 195 → J1 x = J x) → (∀ q, q < p → I1 192 q = I 196 q ∧ I1 193 q = I 197 q ∧ I1 194 q = I 198 q ∧ J1 195 q = J 199 q) → (6 - p) < fuel → (∀ (I1 : Nat → Nat → Int32) (J1 : Nat → Nat → Int64), (∀ x, x < 192 ∨ 194 < x → I1 x = I x) → (∀ x, x ≠ 195 → J1 x = J x) → (∀ q, q < 6 → I1 192 q = I 196 q ∧ I1 193 q = I 197 q ∧ I1 194 q = I 198 q ∧ J1 195 q = J 199 q) → am_A G mX11_again X (am_rm 1 0 0) 72 [some (.ref 191), none] [] (215, kK, kR, I1, J1) 0 0) → am_A G mX11_again X (am_rm 1 0 0) 12 [some (.ref 191), some (.int (iZ (p : Int)))] [] (215, kK, kR, I1, J1) 0 0 := by
    intro fuel
    induction fuel with
    | zero => intro p I1 J1 hp hI hJ hc hfu hk9; exact absurd hfu (Nat.not_lt_zero _)
    | succ fuel ih =>
      intro p I1 J1 hp hI hJ hc hfu hk9
      refine am_iload_n (q := 13) C dX11_again_12 rfl rfl ?_
      refine am_bipush (q := 15) (v := iZ 6) C dX11_again_13 rfl rfl ?_
      refine am_icmpZ_ge (q := 18) (tgt := 72) C dX11_again_15 (by decide) rfl ⟨by omega, by omega⟩ ⟨by omega, by omega⟩ (fun e1 => ?_) (fun e1 => ?_)
      · refine am_wkA (L1 := [some (.ref 191), none]) ⟨rfl, trivial⟩ ?_
        exact hk9 I1 J1 hI hJ (fun q hq => hc q (by omega))
      · refine am_aload_n (q := 19) C dX11_again_18 rfl rfl ?_
        refine am_getR (q := 22) C fb_X11_15 dX11_again_19 rfl rfl kk_191 (show 191 < 215 by decide) kr_191_4 ?_
        refine am_iload_n (q := 23) C dX11_again_22 rfl rfl ?_
        refine am_aload_n (q := 24) C dX11_again_23 rfl rfl ?_
        refine am_getR (q := 27) C fb_X11_29 dX11_again_24 rfl rfl kk_191 (show 191 < 215 by decide) kr_191_8 ?_
        refine am_iload_n (q := 28) C dX11_again_27 rfl rfl ?_
        refine am_ialoadZ (q := 29) p C dX11_again_28 rfl kk_196 (show 196 < 215 by decide) rfl (by omega) (by decide) ?_
        refine am_intE (y := (I 196 p)) (by rw [hI 196 (by decide)]) ?_
        refine am_iastoreZ (q := 30) p C dX11_again_29 rfl kk_192 (show 192 < 215 by decide) rfl (by omega) (by decide) ?_
        refine am_aload_n (q := 31) C dX11_again_30 rfl rfl ?_
        refine am_getR (q := 34) C fb_X11_19 dX11_again_31 rfl rfl kk_191 (show 191 < 215 by decide) kr_191_5 ?_
        refine am_iload_n (q := 35) C dX11_again_34 rfl rfl ?_
        refine am_aload_n (q := 36) C dX11_again_35 rfl rfl ?_
        refine am_getR (q := 39) C fb_X11_32 dX11_again_36 rfl rfl kk_191 (show 191 < 215 by decide) kr_191_9 ?_
        refine am_iload_n (q := 40) C dX11_again_39 rfl rfl ?_
        refine am_ialoadZ (q := 41) p C dX11_again_40 rfl kk_197 (show 197 < 215 by decide) rfl (by omega) (by decide) ?_
        refine am_intE (y := (I 197 p)) (by rw [am_up_row _ _ _ _ (by decide), hI 197 (by decide)]) ?_
        refine am_iastoreZ (q := 42) p C dX11_again_41 rfl kk_193 (show 193 < 215 by decide) rfl (by omega) (by decide) ?_
        refine am_aload_n (q := 43) C dX11_again_42 rfl rfl ?_
        refine am_getR (q := 46) C fb_X11_22 dX11_again_43 rfl rfl kk_191 (show 191 < 215 by decide) kr_191_6 ?_
        refine am_iload_n (q := 47) C dX11_again_46 rfl rfl ?_
        refine am_aload_n (q := 48) C dX11_again_47 rfl rfl ?_
        refine am_getR (q := 51) C fb_X11_35 dX11_again_48 rfl rfl kk_191 (show 191 < 215 by decide) kr_191_10 ?_
        refine am_iload_n (q := 52) C dX11_again_51 rfl rfl ?_
        refine am_ialoadZ (q := 53) p C dX11_again_52 rfl kk_198 (show 198 < 215 by decide) rfl (by omega) (by decide) ?_
        refine am_intE (y := (I 198 p)) (by rw [am_up_row _ _ _ _ (by decide), am_up_row _ _ _ _ (by decide), hI 198 (by decide)]) ?_
        refine am_iastoreZ (q := 54) p C dX11_again_53 rfl kk_194 (show 194 < 215 by decide) rfl (by omega) (by decide) ?_
        refine am_aload_n (q := 55) C dX11_again_54 rfl rfl ?_
        refine am_getR (q := 58) C fb_X11_25 dX11_again_55 rfl rfl kk_191 (show 191 < 215 by decide) kr_191_7 ?_
        refine am_iload_n (q := 59) C dX11_again_58 rfl rfl ?_
        refine am_aload_n (q := 60) C dX11_again_59 rfl rfl ?_
        refine am_getR (q := 63) C fb_X11_38 dX11_again_60 rfl rfl kk_191 (show 191 < 215 by decide) kr_191_11 ?_
        refine am_iload_n (q := 64) C dX11_again_63 rfl rfl ?_
        refine am_laloadZ (q := 65) p C dX11_again_64 rfl kk_199 (show 199 < 215 by decide) rfl (by omega) (by decide) ?_
        refine am_longE (y := (J 199 p)) (by rw [hJ 199 (by decide)]) ?_
        refine am_lastoreZ (q := 66) p C dX11_again_65 rfl kk_195 (show 195 < 215 by decide) rfl (by omega) (by decide) ?_
        refine am_iincZ (q := 69) (L' := [some (.ref 191), some (.int (iZ ((p + 1 : Nat) : Int)))]) C dX11_again_66 rfl rfl (by omega) (by decide) rfl rfl ?_
        refine am_goto (q := 12) C dX11_again_69 (by decide) ?_
        refine ih (p + 1) _ _ (by omega) (fun x hx => ?_) (fun x hx => ?_) (fun q hq => ?_) (by omega) hk9
        · rw [am_up_row _ _ _ _ (by omega), am_up_row _ _ _ _ (by omega), am_up_row _ _ _ _ (by omega)]; exact hI x hx
        · rw [am_up_row _ _ _ _ hx]; exact hJ x hx
        · by_cases e : q = p
          · subst e; simp [am_up]
          · have h1 := hc q (by omega)
            simp [am_up, e]; exact h1
  refine am_aload_n (q := 1) C dX11_again_0 rfl rfl ?_
  refine am_getIe (q := 4) (v := (if σ.2.2.1.2.1 = true then 1 else 0)) C fb_X11_331 dX11_again_1 rfl rfl kk_191 (show 191 < 215 by decide) hM.2.2.2.2.1 ?_
  refine am_ifB_ne (q := 7) (tgt := 10) C dX11_again_4 (by decide) rfl (fun c1 => ?_) (fun c1 => ?_)
  · refine am_iconst (q := 11) (v := iZ 0) C dX11_again_10 rfl rfl ?_
    refine am_istore_n (q := 12) (L' := [some (.ref 191), some (.int (iZ 0))]) C dX11_again_11 rfl (by decide) rfl rfl ?_
    obtain ⟨k1, k2, k3, k4⟩ := hM.2.2.2.2.2.1 (by assumption)
    refine lp 7 0 I J (by omega) (fun x _ => rfl) (fun x _ => rfl) (fun q hq => absurd hq (Nat.not_lt_zero _)) (by omega) (fun I1 J1 hI hJ hc => ?_)
    refine am_aload_n (q := 73) C dX11_again_72 rfl rfl ?_
    refine am_aload_n (q := 74) C dX11_again_73 rfl rfl ?_
    refine am_getIe (q := 77) (v := (iZ (pm σ.2.2.1.1 : Int))) C fb_X11_325 dX11_again_74 rfl rfl kk_191 (show 191 < 215 by decide) (by rw [hI 191 (by decide)]; exact k1) ?_
    refine am_putI (q := 80) C fw_X11_86 dX11_again_77 rfl rfl kk_191 (show 191 < 215 by decide) ?_
    refine am_aload_n (q := 81) C dX11_again_80 rfl rfl ?_
    refine am_aload_n (q := 82) C dX11_again_81 rfl rfl ?_
    refine am_getIe (q := 85) (v := σ.2.2.1.2.2) C fb_X11_328 dX11_again_82 rfl rfl kk_191 (show 191 < 215 by decide) (by rw [am_up_ne _ _ _ _ (Or.inr (by decide)), hI 191 (by decide)]; exact k2) ?_
    refine am_putI (q := 88) C fw_X11_9 dX11_again_85 rfl rfl kk_191 (show 191 < 215 by decide) ?_
    refine am_aload_n (q := 89) C dX11_again_88 rfl rfl ?_
    refine am_iconst (q := 90) (v := iZ 0) C dX11_again_89 rfl rfl ?_
    refine am_putI (q := 93) C fw_X11_93 dX11_again_90 rfl rfl kk_191 (show 191 < 215 by decide) ?_
    refine am_aload_n (q := 94) C dX11_again_93 rfl rfl ?_
    refine am_getIe (q := 97) (v := (iZ (pm σ.2.2.1.1 : Int))) C fb_X11_86 dX11_again_94 rfl rfl kk_191 (show 191 < 215 by decide) (by simp [am_up]) ?_
    refine am_iret C T dX11_again_97 rfl (Nat.le_refl _) (Nat.le_refl _) ⟨_, rfl, ?_⟩
    obtain ⟨m1, m2, m3, m4, m5, m6, m7, m8⟩ := hM
    rw [if_pos (by assumption), if_pos (by assumption)]
    have hm2 := k3.1
    refine ⟨rfl, _, _, rfl, ⟨⟨?_, fun p hp => ?_⟩, k3, ⟨am_up_eq _ _ _ _, Nat.zero_le _, fun i hi => absurd hi (Nat.not_lt_zero _), fun i hi => absurd hi (Nat.not_lt_zero _)⟩, ?_, ?_, fun e => (m6 e).on (by rw [am_up_ne _ _ _ _ (Or.inr (by decide)), am_up_ne _ _ _ _ (Or.inr (by decide)), am_up_ne _ _ _ _ (Or.inr (by decide)), hI 191 (by decide)]) (by rw [am_up_ne _ _ _ _ (Or.inr (by decide)), am_up_ne _ _ _ _ (Or.inr (by decide)), am_up_ne _ _ _ _ (Or.inr (by decide)), hI 191 (by decide)]) (by rw [am_up_row _ _ _ _ (by decide), am_up_row _ _ _ _ (by decide), am_up_row _ _ _ _ (by decide), hI 196 (by decide)]) (by rw [am_up_row _ _ _ _ (by decide), am_up_row _ _ _ _ (by decide), am_up_row _ _ _ _ (by decide), hI 197 (by decide)]) (by rw [am_up_row _ _ _ _ (by decide), am_up_row _ _ _ _ (by decide), am_up_row _ _ _ _ (by decide), hI 198 (by decide)]) (hJ 199 (by decide)), m7.on (by rw [am_up_ne _ _ _ _ (Or.inr (by decide)), am_up_ne _ _ _ _ (Or.inr (by decide)), am_up_ne _ _ _ _ (Or.inr (by decide)), hI 191 (by decide)]) (by rw [am_up_row _ _ _ _ (by decide), am_up_row _ _ _ _ (by decide), am_up_row _ _ _ _ (by decide), hI 206 (by decide)]), fun i hi => (m8 i hi).on (by rw [am_up_row _ _ _ _ (by decide), am_up_row _ _ _ _ (by decide), am_up_row _ _ _ _ (by decide), hI 212 (by decide)]) (by rw [am_up_row _ _ _ _ (by decide), am_up_row _ _ _ _ (by decide), am_up_row _ _ _ _ (by decide), hI 213 (by decide)]) (hJ 214 (by decide))⟩, fun x hx => ⟨by rw [am_up_row _ _ _ _ (by omega), am_up_row _ _ _ _ (by omega), am_up_row _ _ _ _ (by omega), hI x (by omega)], hJ x (by omega)⟩⟩
    · rw [am_up_ne _ _ _ _ (Or.inr (by decide)), am_up_ne _ _ _ _ (Or.inr (by decide)), am_up_eq]
    · obtain ⟨c1, c2, c3, c4⟩ := hc p (by have : p < pm σ.2.2.1.1 := hp; omega)
      obtain ⟨q1, q2, q3, q4⟩ := k4 p hp
      rw [am_up_row _ _ _ _ (by decide), am_up_row _ _ _ _ (by decide), am_up_row _ _ _ _ (by decide), am_up_row _ _ _ _ (by decide), am_up_row _ _ _ _ (by decide), am_up_row _ _ _ _ (by decide), am_up_row _ _ _ _ (by decide), am_up_row _ _ _ _ (by decide), am_up_row _ _ _ _ (by decide)]
      exact ⟨c1.trans q1, c2.trans q2, c3.trans q3, c4.trans q4⟩
    · rw [am_up_ne _ _ _ _ (Or.inr (by decide)), am_up_eq]
    · rw [am_up_ne _ _ _ _ (Or.inr (by decide)), am_up_ne _ _ _ _ (Or.inr (by decide)), am_up_ne _ _ _ _ (Or.inr (by decide)), hI 191 (by decide)]; exact m5
  · refine am_bipush (q := 9) (v := iZ (-3)) C dX11_again_7 rfl rfl ?_
    refine am_iret C T dX11_again_9 rfl (Nat.le_refl _) (Nat.le_refl _) ⟨_, rfl, ?_⟩
    rw [if_neg (by assumption), if_neg (by assumption)]
    exact ⟨rfl, _, _, rfl, hM, frM_refl⟩
theorem atM_tp {σ : SG} {I' : Nat → Nat → Int32} (h : atM I J σ) {T : Nat × (Nat → Nat)} (hT : atB I' T.1 T.2) (h0 : ∀ k, k ≠ 21 → I' 191 k = I 191 k) (hI : ∀ x, x ≠ 191 → x ≠ 206 → I' x = I x) : atM I' J (tpS σ T) := by
  obtain ⟨m1, m2, m3, m4, m5, m6, m7, m8⟩ := h
  exact ⟨m1.on (h0 0 (by decide)) (hI 192 (by decide) (by decide)) (hI 193 (by decide) (by decide)) (hI 194 (by decide) (by decide)) rfl, m2, m3.on (h0 19 (by decide)) (fun r g1 g2 => hI r (by omega) (by omega)) rfl, (h0 1 (by decide)).trans m4, (h0 12 (by decide)).trans m5, fun e => (m6 e).on (h0 2 (by decide)) (h0 3 (by decide)) (hI 196 (by decide) (by decide)) (hI 197 (by decide) (by decide)) (hI 198 (by decide) (by decide)) rfl, hT, fun i hi => (m8 i hi).on (hI 212 (by decide) (by decide)) (hI 213 (by decide) (by decide)) rfl⟩
set_option maxRecDepth 4000 in
theorem sp_X11_feed {σ : SG} (hM : atM I J σ) {v : Int64} {k : Int} (hk : rg k) : am_S G mX11_feed 2 0 0 [.ref 191, .long v, .int (iZ k)] (215, kK, kR, I, J) (am_qi (fun v0 w' => v0 = iZ (feedA σ k) ∧ ∃ (I' : Nat → Nat → Int32) (J' : Nat → Nat → Int64), w' = (215, kK, kR, I', J') ∧ atM I' J' (feedT σ v k) ∧ frM I J I' J')) := by
  have hT0 : atB I (tpN σ) σ.2.2.2.2.1.2 := hM.2.2.2.2.2.2.1
  have ht := hT0.2.1
  refine am_spec (plainFor_of_name (by decide +kernel)) (Nat.le_of_ble_eq_true rfl) (L := [some (.ref 191), some (.long v), none, some (.int (iZ k)), none]) rfl (fun X C T => ?_)
  have lp : ∀ (fuel : Nat) (i : Nat) (I1 : Nat → Nat → Int32), ((i : Int) ≤ k) → (1 ≤ k ∧ k ≤ 8 ∧ ¬ (100 - (tpN σ : Int) < k)) → (atB I1 (fed v i σ.2.2.2.2.1).1 (fed v i σ.2.2.2.2.1).2) → (∀ q, q ≠ 21 → I1 191 q = I 191 q) → (∀ x, x ≠ 191 → x ≠ 206 → I1 x = I x) → ((k - (i : Int)).toNat) < fuel → am_A G mX11_feed X (am_rm 2 0 0) 29 [some (.ref 191), some (.long v), none, some (.int (iZ k)), some (.int (iZ (i : Int)))] [] (215, kK, kR, I1, J) 0 0 := by
    intro fuel
    induction fuel with
    | zero => intro i I1 hi hk8 hT1 h01 hI1 hf; exact absurd hf (Nat.not_lt_zero _)
    | succ fuel ih =>
      intro i I1 hi hk8 hT1 h01 hI1 hf
      refine am_iload (q := 31) C dX11_feed_29 rfl rfl ?_
      refine am_iload_n (q := 32) C dX11_feed_31 rfl rfl ?_
      refine am_icmpZ_ge (q := 35) (tgt := 72) C dX11_feed_32 (by decide) rfl ⟨by omega, by omega⟩ hk (fun c1 => ?_) (fun c1 => ?_)
      · refine am_aload_n (q := 73) C dX11_feed_72 rfl rfl ?_
        refine am_getIe (q := 76) (v := (iZ ((tpN σ + i : Nat) : Int))) C fb_X11_117 dX11_feed_73 rfl rfl kk_191 (show 191 < 215 by decide) (by rw [hT1.1, fed_1]) ?_
        refine am_iret C T dX11_feed_76 rfl (Nat.le_refl _) (Nat.le_refl _) ⟨_, rfl, ?_⟩
        have e1 : feedA σ k = ((tpN σ + i : Nat) : Int) := by
          unfold feedA
          rw [if_pos (by omega), if_neg (by omega)]
          omega
        have e2 : feedT σ v k = tpS σ (fed v i σ.2.2.2.2.1) := by
          unfold feedT
          rw [if_pos (by omega), if_neg (by omega), show k.toNat = i by omega]
        rw [e1, e2]
        exact ⟨rfl, _, _, rfl, atM_tp hM hT1 h01 hI1, fun x hx => ⟨hI1 x (by omega) (by omega), rfl⟩⟩
      · refine am_aload_n (q := 36) C dX11_feed_35 rfl rfl ?_
        refine am_getR (q := 39) C fb_X11_59 dX11_feed_36 rfl rfl kk_191 (show 191 < 215 by decide) kr_191_20 ?_
        refine am_aload_n (q := 40) C dX11_feed_39 rfl rfl ?_
        refine am_getIe (q := 43) (v := (iZ ((tpN σ + i : Nat) : Int))) C fb_X11_117 dX11_feed_40 rfl rfl kk_191 (show 191 < 215 by decide) (by rw [hT1.1, fed_1]) ?_
        refine am_lload_n (q := 44) C dX11_feed_43 rfl rfl ?_
        refine am_bipush (q := 46) (v := iZ 8) C dX11_feed_44 rfl rfl ?_
        refine am_iload (q := 48) C dX11_feed_46 rfl rfl ?_
        refine am_imulZ (q := 49) C dX11_feed_48 rfl ?_
        refine am_lshr (q := 50) C dX11_feed_49 rfl ?_
        refine am_ldc2 (q := 53) C dX11_feed_50 rfl ck_X11_120 ?_
        refine am_longE (y := lN 255) rfl ?_
        refine am_land (q := 54) C dX11_feed_53 rfl ?_
        refine am_l2i (q := 55) C dX11_feed_54 rfl ?_
        refine am_intE (y := (iZ (byN v i : Int))) (by_M v (by omega)) ?_
        refine am_iastoreZ (q := 56) (tpN σ + i) C dX11_feed_55 rfl kk_206 (show 206 < 215 by decide) rfl (by omega) (by decide) ?_
        refine am_aload_n (q := 57) C dX11_feed_56 rfl rfl ?_
        refine am_dup (q := 58) C dX11_feed_57 rfl rfl ?_
        refine am_getIe (q := 61) (v := (iZ ((tpN σ + i : Nat) : Int))) C fb_X11_117 dX11_feed_58 rfl rfl kk_191 (show 191 < 215 by decide) (by rw [am_up_row _ _ _ _ (by decide), hT1.1, fed_1]) ?_
        refine am_iconst (q := 62) (v := iZ 1) C dX11_feed_61 rfl rfl ?_
        refine am_iaddZ (q := 63) C dX11_feed_62 rfl ?_
        refine am_intE (y := (iZ ((tpN σ + i + 1 : Nat) : Int))) (congrArg iZ (by omega)) ?_
        refine am_putI (q := 66) C fw_X11_117 dX11_feed_63 rfl rfl kk_191 (show 191 < 215 by decide) ?_
        refine am_iincZ (q := 69) (L' := [some (.ref 191), some (.long v), none, some (.int (iZ k)), some (.int (iZ ((i + 1 : Nat) : Int)))]) C dX11_feed_66 rfl rfl (by omega) (by decide) rfl rfl ?_
        refine am_goto (q := 29) C dX11_feed_69 (by decide) ?_
        have hb := byN_lt v i
        obtain ⟨b1, b2, b3⟩ := hT1
        have hf1 : (fed v i σ.2.2.2.2.1).1 = tpN σ + i := fed_1 v σ.2.2.2.2.1 i
        have hf2 : (fed v (i + 1) σ.2.2.2.2.1).1 = tpN σ + (i + 1) := fed_1 v σ.2.2.2.2.1 (i + 1)
        refine ih (i + 1) _ (by omega) (by omega) ⟨?_, ?_, fun q hq => ?_⟩ (fun q hq => ?_) (fun x h1 h2 => ?_) (by omega)
        · rw [am_up_eq]; exact congrArg (fun z : Nat => iZ (z : Int)) (by rw [hf2]; rfl)
        · rw [hf2]; omega
        · have hq : q < (fed v i σ.2.2.2.2.1).1 + 1 := hq
          show _ = iZ ((up1 (fed v i σ.2.2.2.2.1).2 (fed v i σ.2.2.2.2.1).1 (byN v i) q : Nat) : Int) ∧ up1 (fed v i σ.2.2.2.2.1).2 (fed v i σ.2.2.2.2.1).1 (byN v i) q < 256
          rw [hf1] at hq ⊢
          by_cases e : q = tpN σ + i
          · subst e
            rw [up1_eq, am_up_row _ _ _ _ (by decide), am_up_eq]
            exact ⟨rfl, hb⟩
          · rw [up1_ne _ _ e, am_up_row _ _ _ _ (by decide), am_up_ne _ _ _ _ (Or.inr e)]
            exact b3 q (by omega)
        · rw [am_up_ne _ _ _ _ (Or.inr hq), am_up_row _ _ _ _ (by decide)]; exact h01 q hq
        · rw [am_up_row _ _ _ _ h1, am_up_row _ _ _ _ h2]; exact hI1 x h1 h2
  refine am_iload_n (q := 1) C dX11_feed_0 rfl rfl ?_
  refine am_iconst (q := 2) (v := iZ 1) C dX11_feed_1 rfl rfl ?_
  refine am_bipush (q := 4) (v := iZ 8) C dX11_feed_2 rfl rfl ?_
  refine am_callS (q := 7) (As := [.int (iZ k), .int (iZ 1), .int (iZ 8)]) (rest := []) C mb_X11_in st_X11_in ml_X11_89 dX11_feed_4 rfl (sp_X11_in (v := k) (a := 1) (b := 8) hk ⟨by omega, by omega⟩ ⟨by omega, by omega⟩) rfl rfl ⟨by decide, by decide⟩ ⟨Nat.le_refl _, Nat.le_refl _⟩ (Nat.le_of_ble_eq_true rfl) (am_rie ?_)
  refine am_ifB_ne (q := 10) (tgt := 12) C dX11_feed_7 (by decide) rfl (fun c2 => ?_) (fun c2 => ?_)
  · refine am_aload_n (q := 13) C dX11_feed_12 rfl rfl ?_
    refine am_getIe (q := 16) (v := (iZ (tpN σ : Int))) C fb_X11_117 dX11_feed_13 rfl rfl kk_191 (show 191 < 215 by decide) hT0.1 ?_
    refine am_iload_n (q := 17) C dX11_feed_16 rfl rfl ?_
    refine am_iaddZ (q := 18) C dX11_feed_17 rfl ?_
    refine am_bipush (q := 20) (v := iZ 100) C dX11_feed_18 rfl rfl ?_
    refine am_icmpZ_le (q := 23) (tgt := 26) C dX11_feed_20 (by decide) rfl ⟨by omega, by omega⟩ ⟨by omega, by omega⟩ (fun c3 => ?_) (fun c3 => ?_)
    · refine am_iconst (q := 27) (v := iZ 0) C dX11_feed_26 rfl rfl ?_
      refine am_istore (q := 29) (L' := [some (.ref 191), some (.long v), none, some (.int (iZ k)), some (.int (iZ 0))]) C dX11_feed_27 rfl (by decide) rfl rfl ?_
      exact lp 9 0 I (by omega) (by omega) hT0 (fun q _ => rfl) (fun x _ _ => rfl) (by omega)
    · refine am_bipush (q := 25) (v := iZ (-2)) C dX11_feed_23 rfl rfl ?_
      refine am_iret C T dX11_feed_25 rfl (Nat.le_refl _) (Nat.le_refl _) ⟨_, rfl, ?_⟩
      have e1 : feedA σ k = (-2) := by
        unfold feedA
        try simp only [Int.toNat_natCast]
        first | (rw [if_neg (by omega)]; done) | (rw [if_pos (by omega), if_pos (by omega)]; done) | (rw [if_pos (by omega), if_neg (by omega)]; done)
      have e2 : feedT σ v k = σ := by
        unfold feedT
        try simp only [Int.toNat_natCast]
        first | (rw [if_neg (by omega)]; done) | (rw [if_pos (by omega), if_pos (by omega)]; done) | (rw [if_pos (by omega), if_neg (by omega)]; done)
      rw [e1, e2]
      exact ⟨rfl, _, _, rfl, hM, frM_refl⟩
  · refine am_iconst (q := 11) (v := iZ (-1)) C dX11_feed_10 rfl rfl ?_
    refine am_iret C T dX11_feed_11 rfl (Nat.le_refl _) (Nat.le_refl _) ⟨_, rfl, ?_⟩
    have e1 : feedA σ k = (-1) := by
      unfold feedA
      try simp only [Int.toNat_natCast]
      first | (rw [if_neg (by omega)]; done) | (rw [if_pos (by omega), if_pos (by omega)]; done) | (rw [if_pos (by omega), if_neg (by omega)]; done)
    have e2 : feedT σ v k = σ := by
      unfold feedT
      try simp only [Int.toNat_natCast]
      first | (rw [if_neg (by omega)]; done) | (rw [if_pos (by omega), if_pos (by omega)]; done) | (rw [if_pos (by omega), if_neg (by omega)]; done)
    rw [e1, e2]
    exact ⟨rfl, _, _, rfl, hM, frM_refl⟩
theorem atM_sh {σ : SG} {I' : Nat → Nat → Int32} {J' : Nat → Nat → Int64} (h : atM I J σ) {i : Nat} {s : Int} {n : Nat} {f : Nat → Int64} (hA : atH I' J' i s n f) (hI : ∀ x, x ≠ 212 → x ≠ 213 → I' x = I x) (hJ : ∀ x, x ≠ 214 → J' x = J x) (h2 : ∀ j, j ≠ i → I' 212 j = I 212 j ∧ I' 213 j = I 213 j) (h3 : ∀ j k, j ≠ i → k < 60 → J' 214 (60 * j + k) = J 214 (60 * j + k)) : atM I' J' (shS σ i s n f) := by
  obtain ⟨m1, m2, m3, m4, m5, m6, m7, m8⟩ := h
  have h191 : I' 191 = I 191 := hI 191 (by decide) (by decide)
  refine ⟨m1.on (by rw [h191]) (hI 192 (by decide) (by decide)) (hI 193 (by decide) (by decide)) (hI 194 (by decide) (by decide)) (hJ 195 (by decide)), m2, m3.on (by rw [h191]) (fun r g1 g2 => hI r (by omega) (by omega)) (hJ 205 (by decide)), by rw [h191]; exact m4, by rw [h191]; exact m5, fun e => (m6 e).on (by rw [h191]) (by rw [h191]) (hI 196 (by decide) (by decide)) (hI 197 (by decide) (by decide)) (hI 198 (by decide) (by decide)) (hJ 199 (by decide)), m7.on (by rw [h191]) (hI 206 (by decide) (by decide)), fun j hj => ?_⟩
  show atH I' J' j (up1 σ.2.2.2.2.2.1 i s j) (up1 σ.2.2.2.2.2.2.1 i n j) (up1 σ.2.2.2.2.2.2.2 i f j)
  by_cases e : j = i
  · subst e; rw [up1_eq, up1_eq, up1_eq]; exact hA
  · rw [up1_ne _ _ e, up1_ne _ _ e, up1_ne _ _ e]
    obtain ⟨c1, c2, c3, c4, c5, c6⟩ := m8 j hj
    exact ⟨(h2 j e).1.trans c1, (h2 j e).2.trans c2, c3, c4, c5, fun k hk => (h3 j k e hk).trans (c6 k hk)⟩
set_option maxRecDepth 4000 in
theorem sp_X11_isSheet {p : Int} (hp : rg p) : am_S G mX11_isSheet 2 0 0 [.int (iZ p)] (215, kK, kR, I, J) (am_fi (if 0 ≤ p ∧ p < 4 then 1 else 0) (215, kK, kR, I, J)) := by
  refine am_spec (plainFor_of_name (by decide +kernel)) (Nat.le_of_ble_eq_true rfl) (L := [some (.int (iZ p))]) rfl (fun X C T => ?_)
  refine am_iload_n (q := 1) C dX11_isSheet_0 rfl rfl ?_
  refine am_iconst (q := 2) (v := iZ 0) C dX11_isSheet_1 rfl rfl ?_
  refine am_iconst (q := 3) (v := iZ 3) C dX11_isSheet_2 rfl rfl ?_
  refine am_callS (q := 6) (As := [.int (iZ p), .int (iZ 0), .int (iZ 3)]) (rest := []) C mb_X11_in st_X11_in ml_X11_89 dX11_isSheet_3 rfl (sp_X11_in (v := p) (a := 0) (b := 3) hp ⟨by omega, by omega⟩ ⟨by omega, by omega⟩) rfl rfl ⟨by decide, by decide⟩ ⟨Nat.le_refl _, Nat.le_refl _⟩ (Nat.le_of_ble_eq_true rfl) (am_rie ?_)
  refine am_zret C T dX11_isSheet_6 rfl (ite_nar _) (Nat.le_refl _) (Nat.le_refl _) ⟨_, rfl, ?_⟩
  refine ⟨?_, rfl⟩
  by_cases c : 0 ≤ p ∧ p < 4
  · rw [if_pos c, if_pos (by omega)]
  · rw [if_neg c, if_neg (by omega)]
set_option maxRecDepth 4000 in
theorem sp_X11_cut {s : Int} (hs : rg s) {v : Int64} : am_S G mX11_cut 1 0 0 [.int (iZ s), .long v] (215, kK, kR, I, J) (am_fl (cutV s v) (215, kK, kR, I, J)) := by
  refine am_spec (plainFor_of_name (by decide +kernel)) (Nat.le_of_ble_eq_true rfl) (L := [some (.int (iZ s)), some (.long v), none]) rfl (fun X C T => ?_)
  refine am_iload_n (q := 1) C dX11_cut_0 rfl rfl ?_
  refine am_ifZ_ne (q := 4) (tgt := 11) C dX11_cut_1 (by decide) rfl hs (fun c1 => ?_) (fun c1 => ?_)
  · refine am_iload_n (q := 12) C dX11_cut_11 rfl rfl ?_
    refine am_iconst (q := 13) (v := iZ 1) C dX11_cut_12 rfl rfl ?_
    refine am_icmpZ_ne (q := 16) (tgt := 23) C dX11_cut_13 (by decide) rfl hs ⟨by omega, by omega⟩ (fun c2 => ?_) (fun c2 => ?_)
    · refine am_lload_n (q := 24) C dX11_cut_23 rfl rfl ?_
      refine am_lret C T dX11_cut_24 rfl (Nat.le_refl _) (Nat.le_refl _) ⟨_, rfl, ?_⟩
      refine ⟨?_, rfl⟩
      unfold cutV
      first | (rw [if_pos (by omega)]) | (rw [if_neg (by omega), if_pos (by omega)]) | (rw [if_neg (by omega), if_neg (by omega)])
    · refine am_lload_n (q := 17) C dX11_cut_16 rfl rfl ?_
      refine am_l2i (q := 18) C dX11_cut_17 rfl ?_
      refine am_i2s (q := 19) C dX11_cut_18 rfl ?_
      refine am_i2l (q := 20) C dX11_cut_19 rfl ?_
      refine am_goto (q := 24) C dX11_cut_20 (by decide) ?_
      refine am_lret C T dX11_cut_24 rfl (Nat.le_refl _) (Nat.le_refl _) ⟨_, rfl, ?_⟩
      refine ⟨?_, rfl⟩
      unfold cutV
      first | (rw [if_pos (by omega)]) | (rw [if_neg (by omega), if_pos (by omega)]) | (rw [if_neg (by omega), if_neg (by omega)])
  · refine am_lload_n (q := 5) C dX11_cut_4 rfl rfl ?_
    refine am_l2i (q := 6) C dX11_cut_5 rfl ?_
    refine am_i2b (q := 7) C dX11_cut_6 rfl ?_
    refine am_i2l (q := 8) C dX11_cut_7 rfl ?_
    refine am_goto (q := 24) C dX11_cut_8 (by decide) ?_
    refine am_lret C T dX11_cut_24 rfl (Nat.le_refl _) (Nat.le_refl _) ⟨_, rfl, ?_⟩
    refine ⟨?_, rfl⟩
    unfold cutV
    first | (rw [if_pos (by omega)]) | (rw [if_neg (by omega), if_pos (by omega)]) | (rw [if_neg (by omega), if_neg (by omega)])
set_option maxRecDepth 4000 in
theorem sp_X11_put {σ : SG} (hM : atM I J σ) {p k : Int} (hp : rg p) (hk : rg k) {v : Int64} : am_S G mX11_put 3 0 0 [.ref 191, .int (iZ p), .int (iZ k), .long v] (215, kK, kR, I, J) (am_qi (fun v0 w' => v0 = iZ (putA σ p k) ∧ ∃ (I' : Nat → Nat → Int32) (J' : Nat → Nat → Int64), w' = (215, kK, kR, I', J') ∧ atM I' J' (putT σ p k v) ∧ frM I J I' J')) := by
  refine am_spec (plainFor_of_name (by decide +kernel)) (Nat.le_of_ble_eq_true rfl) (L := [some (.ref 191), some (.int (iZ p)), some (.int (iZ k)), some (.long v), none]) rfl (fun X C T => ?_)
  refine am_iload_n (q := 1) C dX11_put_0 rfl rfl ?_
  refine am_callS (q := 4) (As := [.int (iZ p)]) (rest := []) C mb_X11_isSheet st_X11_isSheet ml_X11_300 dX11_put_1 rfl (sp_X11_isSheet hp) rfl rfl ⟨by decide, by decide⟩ ⟨Nat.le_refl _, Nat.le_refl _⟩ (Nat.le_of_ble_eq_true rfl) (am_rie ?_)
  refine am_ifB_ne (q := 7) (tgt := 9) C dX11_put_4 (by decide) rfl (fun c1 => ?_) (fun c1 => ?_)
  · obtain ⟨i, rfl⟩ : ∃ q : Nat, p = q := ⟨p.toNat, by omega⟩
    have hi : i < 4 := by omega
    obtain ⟨a1, a2, a3, a4, a5, a6⟩ := hM.2.2.2.2.2.2.2 i hi
    refine am_aload_n (q := 10) C dX11_put_9 rfl rfl ?_
    refine am_getR (q := 13) C fb_X11_77 dX11_put_10 rfl rfl kk_191 (show 191 < 215 by decide) kr_191_45 ?_
    refine am_iload_n (q := 14) C dX11_put_13 rfl rfl ?_
    refine am_ialoadZ (q := 15) i C dX11_put_14 rfl kk_212 (show 212 < 215 by decide) rfl (by omega) (by decide) ?_
    refine am_intE (y := (iZ (sS σ i))) a1 ?_
    refine am_ifZ_ge (q := 18) (tgt := 21) C dX11_put_15 (by decide) rfl ⟨by omega, by omega⟩ (fun g1 => ?_) (fun g1 => ?_)
    · refine am_iload_n (q := 22) C dX11_put_21 rfl rfl ?_
      refine am_iconst (q := 23) (v := iZ 0) C dX11_put_22 rfl rfl ?_
      refine am_aload_n (q := 24) C dX11_put_23 rfl rfl ?_
      refine am_getR (q := 27) C fb_X11_80 dX11_put_24 rfl rfl kk_191 (show 191 < 215 by decide) kr_191_46 ?_
      refine am_iload_n (q := 28) C dX11_put_27 rfl rfl ?_
      refine am_ialoadZ (q := 29) i C dX11_put_28 rfl kk_213 (show 213 < 215 by decide) rfl (by omega) (by decide) ?_
      refine am_intE (y := (iZ (sN σ i : Int))) a2 ?_
      refine am_iconst (q := 30) (v := iZ 1) C dX11_put_29 rfl rfl ?_
      refine am_isubZ (q := 31) C dX11_put_30 rfl ?_
      refine am_callS (q := 34) (As := [.int (iZ k), .int (iZ 0), .int (iZ ((sN σ i : Int) - 1))]) (rest := []) C mb_X11_in st_X11_in ml_X11_89 dX11_put_31 rfl (sp_X11_in (v := k) (a := 0) (b := (sN σ i : Int) - 1) hk ⟨by omega, by omega⟩ ⟨by omega, by omega⟩) rfl rfl ⟨by decide, by decide⟩ ⟨Nat.le_refl _, Nat.le_refl _⟩ (Nat.le_of_ble_eq_true rfl) (am_rie ?_)
      refine am_ifB_ne (q := 37) (tgt := 40) C dX11_put_34 (by decide) rfl (fun g2 => ?_) (fun g2 => ?_)
      · refine am_aload_n (q := 41) C dX11_put_40 rfl rfl ?_
        refine am_getR (q := 44) C fb_X11_83 dX11_put_41 rfl rfl kk_191 (show 191 < 215 by decide) kr_191_47 ?_
        refine am_bipush (q := 46) (v := iZ 60) C dX11_put_44 rfl rfl ?_
        refine am_iload_n (q := 47) C dX11_put_46 rfl rfl ?_
        refine am_imulZ (q := 48) C dX11_put_47 rfl ?_
        refine am_iload_n (q := 49) C dX11_put_48 rfl rfl ?_
        refine am_iaddZ (q := 50) C dX11_put_49 rfl ?_
        refine am_aload_n (q := 51) C dX11_put_50 rfl rfl ?_
        refine am_getR (q := 54) C fb_X11_77 dX11_put_51 rfl rfl kk_191 (show 191 < 215 by decide) kr_191_45 ?_
        refine am_iload_n (q := 55) C dX11_put_54 rfl rfl ?_
        refine am_ialoadZ (q := 56) i C dX11_put_55 rfl kk_212 (show 212 < 215 by decide) rfl (by omega) (by decide) ?_
        refine am_intE (y := (iZ (sS σ i))) a1 ?_
        refine am_lload_n (q := 57) C dX11_put_56 rfl rfl ?_
        refine am_callS (q := 60) (As := [.int (iZ (sS σ i)), .long v]) (rest := [.int (iZ (60 * (i : Int) + k)), .ref 214]) C mb_X11_cut st_X11_cut ml_X11_303 dX11_put_57 rfl (sp_X11_cut (s := sS σ i) ⟨by omega, by omega⟩) rfl rfl ⟨by decide, by decide⟩ ⟨Nat.le_refl _, Nat.le_refl _⟩ (Nat.le_of_ble_eq_true rfl) (am_rle ?_)
        refine am_lastoreZ (q := 61) (60 * i + k.toNat) C dX11_put_60 rfl kk_214 (show 214 < 215 by decide) (by omega) (by omega) (by decide) ?_
        refine am_iconst (q := 62) (v := iZ 1) C dX11_put_61 rfl rfl ?_
        refine am_iret C T dX11_put_62 rfl (Nat.le_refl _) (Nat.le_refl _) ⟨_, rfl, ?_⟩
        have e1 : putA σ (i : Int) k = 1 := by
          unfold putA
          try simp only [Int.toNat_natCast]
          first | (rw [if_neg (by omega)]; done) | (rw [if_pos (by omega), if_pos (by omega)]; done) | (rw [if_pos (by omega), if_neg (by omega), if_pos (by omega)]; done) | (rw [if_pos (by omega), if_neg (by omega), if_neg (by omega)]; done)
        have e2 : putT σ (i : Int) k v = shS σ i (sS σ i) (sN σ i) (up1 (sF σ i) k.toNat (cutV (sS σ i) v)) := by
          unfold putT
          try simp only [Int.toNat_natCast]
          first | (rw [if_neg (by omega)]; done) | (rw [if_pos (by omega), if_pos (by omega)]; done) | (rw [if_pos (by omega), if_neg (by omega), if_pos (by omega)]; done) | (rw [if_pos (by omega), if_neg (by omega), if_neg (by omega)]; done)
        rw [e1, e2]
        refine ⟨rfl, _, _, rfl, atM_sh hM ⟨a1, a2, a3, a4, a5, fun j hj => ?_⟩ (fun x _ _ => rfl) (fun x hx => am_up_row _ _ _ _ hx) (fun j hj => ⟨rfl, rfl⟩) (fun j q hj hq => am_up_ne _ _ _ _ (Or.inr (by omega))), fun x hx => ⟨rfl, am_up_row _ _ _ _ (by omega)⟩⟩
        by_cases e : j = k.toNat
        · rw [e, am_up_eq, up1_eq]
        · rw [am_up_ne _ _ _ _ (Or.inr (by omega)), up1_ne _ _ e]; exact a6 j hj
      · refine am_bipush (q := 39) (v := iZ (-12)) C dX11_put_37 rfl rfl ?_
        refine am_iret C T dX11_put_39 rfl (Nat.le_refl _) (Nat.le_refl _) ⟨_, rfl, ?_⟩
        have e1 : putA σ (i : Int) k = (-12) := by
          unfold putA
          try simp only [Int.toNat_natCast]
          first | (rw [if_neg (by omega)]; done) | (rw [if_pos (by omega), if_pos (by omega)]; done) | (rw [if_pos (by omega), if_neg (by omega), if_pos (by omega)]; done) | (rw [if_pos (by omega), if_neg (by omega), if_neg (by omega)]; done)
        have e2 : putT σ (i : Int) k v = σ := by
          unfold putT
          try simp only [Int.toNat_natCast]
          first | (rw [if_neg (by omega)]; done) | (rw [if_pos (by omega), if_pos (by omega)]; done) | (rw [if_pos (by omega), if_neg (by omega), if_pos (by omega)]; done) | (rw [if_pos (by omega), if_neg (by omega), if_neg (by omega)]; done)
        rw [e1, e2]
        exact ⟨rfl, _, _, rfl, hM, frM_refl⟩
    · refine am_bipush (q := 20) (v := iZ (-11)) C dX11_put_18 rfl rfl ?_
      refine am_iret C T dX11_put_20 rfl (Nat.le_refl _) (Nat.le_refl _) ⟨_, rfl, ?_⟩
      have e1 : putA σ (i : Int) k = (-11) := by
        unfold putA
        try simp only [Int.toNat_natCast]
        first | (rw [if_neg (by omega)]; done) | (rw [if_pos (by omega), if_pos (by omega)]; done) | (rw [if_pos (by omega), if_neg (by omega), if_pos (by omega)]; done) | (rw [if_pos (by omega), if_neg (by omega), if_neg (by omega)]; done)
      have e2 : putT σ (i : Int) k v = σ := by
        unfold putT
        try simp only [Int.toNat_natCast]
        first | (rw [if_neg (by omega)]; done) | (rw [if_pos (by omega), if_pos (by omega)]; done) | (rw [if_pos (by omega), if_neg (by omega), if_pos (by omega)]; done) | (rw [if_pos (by omega), if_neg (by omega), if_neg (by omega)]; done)
      rw [e1, e2]
      exact ⟨rfl, _, _, rfl, hM, frM_refl⟩
  · refine am_iconst (q := 8) (v := iZ (-1)) C dX11_put_7 rfl rfl ?_
    refine am_iret C T dX11_put_8 rfl (Nat.le_refl _) (Nat.le_refl _) ⟨_, rfl, ?_⟩
    have e1 : putA σ p k = (-1) := by
      unfold putA
      try simp only [Int.toNat_natCast]
      first | (rw [if_neg (by omega)]; done) | (rw [if_pos (by omega), if_pos (by omega)]; done) | (rw [if_pos (by omega), if_neg (by omega), if_pos (by omega)]; done) | (rw [if_pos (by omega), if_neg (by omega), if_neg (by omega)]; done)
    have e2 : putT σ p k v = σ := by
      unfold putT
      try simp only [Int.toNat_natCast]
      first | (rw [if_neg (by omega)]; done) | (rw [if_pos (by omega), if_pos (by omega)]; done) | (rw [if_pos (by omega), if_neg (by omega), if_pos (by omega)]; done) | (rw [if_pos (by omega), if_neg (by omega), if_neg (by omega)]; done)
    rw [e1, e2]
    exact ⟨rfl, _, _, rfl, hM, frM_refl⟩
set_option maxRecDepth 4000 in
theorem sp_X11_item {σ : SG} (hM : atM I J σ) {p s k : Int} (hp : rg p) (hs : rg s) (hk : rg k) : am_S G mX11_item 3 0 0 [.ref 191, .int (iZ p), .int (iZ s), .int (iZ k)] (215, kK, kR, I, J) (am_qi (fun v w' => v = itemA σ p s k ∧ ∃ (I' : Nat → Nat → Int32) (J' : Nat → Nat → Int64), w' = (215, kK, kR, I', J') ∧ atM I' J' (σ) ∧ frM I J I' J')) := by
  refine am_spec (plainFor_of_name (by decide +kernel)) (Nat.le_of_ble_eq_true rfl) (L := [some (.ref 191), some (.int (iZ p)), some (.int (iZ s)), some (.int (iZ k))]) rfl (fun X C T => ?_)
  refine am_iload_n (q := 1) C dX11_item_0 rfl rfl ?_
  refine am_callS (q := 4) (As := [.int (iZ p)]) (rest := []) C mb_X11_isSheet st_X11_isSheet ml_X11_300 dX11_item_1 rfl (sp_X11_isSheet hp) rfl rfl ⟨by decide, by decide⟩ ⟨Nat.le_refl _, Nat.le_refl _⟩ (Nat.le_of_ble_eq_true rfl) (am_rie ?_)
  refine am_ifB_eq (q := 7) (tgt := 16) C dX11_item_4 (by decide) rfl (fun c1 => ?_) (fun c1 => ?_)
  · refine am_iconst (q := 17) (v := iZ (-1)) C dX11_item_16 rfl rfl ?_
    refine am_iret C T dX11_item_17 rfl (Nat.le_refl _) (Nat.le_refl _) ⟨_, rfl, ?_⟩
    have e1 : itemA σ p s k = iZ (-1) := by
      unfold itemA
      try simp only [Int.toNat_natCast]
      first | (rw [if_neg (by omega)]; done) | (rw [if_pos (by omega), if_pos (by omega)]; done) | (rw [if_pos (by omega), if_neg (by omega), if_neg (by omega)]; done) | (rw [if_pos (by omega), if_neg (by omega), if_pos (by omega), if_neg (by omega)]; done) | (rw [if_pos (by omega), if_neg (by omega), if_pos (by omega), if_pos (by omega)]; done)
    rw [e1]
    exact ⟨rfl, _, _, rfl, hM, frM_refl⟩
  · refine am_iload_n (q := 8) C dX11_item_7 rfl rfl ?_
    refine am_iconst (q := 9) (v := iZ 0) C dX11_item_8 rfl rfl ?_
    refine am_iconst (q := 10) (v := iZ 2) C dX11_item_9 rfl rfl ?_
    refine am_callS (q := 13) (As := [.int (iZ s), .int (iZ 0), .int (iZ 2)]) (rest := []) C mb_X11_in st_X11_in ml_X11_89 dX11_item_10 rfl (sp_X11_in (v := s) (a := 0) (b := 2) hs ⟨by omega, by omega⟩ ⟨by omega, by omega⟩) rfl rfl ⟨by decide, by decide⟩ ⟨Nat.le_refl _, Nat.le_refl _⟩ (Nat.le_of_ble_eq_true rfl) (am_rie ?_)
    refine am_ifB_ne (q := 16) (tgt := 18) C dX11_item_13 (by decide) rfl (fun c2 => ?_) (fun c2 => ?_)
    · obtain ⟨i, rfl⟩ : ∃ q : Nat, p = q := ⟨p.toNat, by omega⟩
      have hi : i < 4 := by omega
      obtain ⟨a1, a2, a3, a4, a5, a6⟩ := hM.2.2.2.2.2.2.2 i hi
      refine am_aload_n (q := 19) C dX11_item_18 rfl rfl ?_
      refine am_getR (q := 22) C fb_X11_77 dX11_item_19 rfl rfl kk_191 (show 191 < 215 by decide) kr_191_45 ?_
      refine am_iload_n (q := 23) C dX11_item_22 rfl rfl ?_
      refine am_ialoadZ (q := 24) i C dX11_item_23 rfl kk_212 (show 212 < 215 by decide) rfl (by omega) (by decide) ?_
      refine am_intE (y := (iZ (sS σ i))) a1 ?_
      refine am_iload_n (q := 25) C dX11_item_24 rfl rfl ?_
      refine am_icmpZ_eq (q := 28) (tgt := 45) C dX11_item_25 (by decide) rfl ⟨by omega, by omega⟩ hs (fun g1 => ?_) (fun g1 => ?_)
      · refine am_iload_n (q := 46) C dX11_item_45 rfl rfl ?_
        refine am_iconst (q := 47) (v := iZ 0) C dX11_item_46 rfl rfl ?_
        refine am_aload_n (q := 48) C dX11_item_47 rfl rfl ?_
        refine am_getR (q := 51) C fb_X11_80 dX11_item_48 rfl rfl kk_191 (show 191 < 215 by decide) kr_191_46 ?_
        refine am_iload_n (q := 52) C dX11_item_51 rfl rfl ?_
        refine am_ialoadZ (q := 53) i C dX11_item_52 rfl kk_213 (show 213 < 215 by decide) rfl (by omega) (by decide) ?_
        refine am_intE (y := (iZ (sN σ i : Int))) a2 ?_
        refine am_iconst (q := 54) (v := iZ 1) C dX11_item_53 rfl rfl ?_
        refine am_isubZ (q := 55) C dX11_item_54 rfl ?_
        refine am_callS (q := 58) (As := [.int (iZ k), .int (iZ 0), .int (iZ ((sN σ i : Int) - 1))]) (rest := []) C mb_X11_in st_X11_in ml_X11_89 dX11_item_55 rfl (sp_X11_in (v := k) (a := 0) (b := (sN σ i : Int) - 1) hk ⟨by omega, by omega⟩ ⟨by omega, by omega⟩) rfl rfl ⟨by decide, by decide⟩ ⟨Nat.le_refl _, Nat.le_refl _⟩ (Nat.le_of_ble_eq_true rfl) (am_rie ?_)
        refine am_ifB_eq (q := 61) (tgt := 76) C dX11_item_58 (by decide) rfl (fun g2 => ?_) (fun g2 => ?_)
        · refine am_bipush (q := 78) (v := iZ (-12)) C dX11_item_76 rfl rfl ?_
          refine am_iret C T dX11_item_78 rfl (Nat.le_refl _) (Nat.le_refl _) ⟨_, rfl, ?_⟩
          have e1 : itemA σ (i : Int) s k = iZ (-12) := by
            unfold itemA
            try simp only [Int.toNat_natCast]
            first | (rw [if_neg (by omega)]; done) | (rw [if_pos (by omega), if_pos (by omega)]; done) | (rw [if_pos (by omega), if_neg (by omega), if_neg (by omega)]; done) | (rw [if_pos (by omega), if_neg (by omega), if_pos (by omega), if_neg (by omega)]; done) | (rw [if_pos (by omega), if_neg (by omega), if_pos (by omega), if_pos (by omega)]; done)
          rw [e1]
          exact ⟨rfl, _, _, rfl, hM, frM_refl⟩
        · refine am_aload_n (q := 62) C dX11_item_61 rfl rfl ?_
          refine am_getR (q := 65) C fb_X11_83 dX11_item_62 rfl rfl kk_191 (show 191 < 215 by decide) kr_191_47 ?_
          refine am_bipush (q := 67) (v := iZ 60) C dX11_item_65 rfl rfl ?_
          refine am_iload_n (q := 68) C dX11_item_67 rfl rfl ?_
          refine am_imulZ (q := 69) C dX11_item_68 rfl ?_
          refine am_iload_n (q := 70) C dX11_item_69 rfl rfl ?_
          refine am_iaddZ (q := 71) C dX11_item_70 rfl ?_
          refine am_laloadZ (q := 72) (60 * i + k.toNat) C dX11_item_71 rfl kk_214 (show 214 < 215 by decide) (by omega) (by omega) (by decide) ?_
          refine am_longE (y := (sF σ i k.toNat)) (a6 k.toNat (by omega)) ?_
          refine am_l2i (q := 73) C dX11_item_72 rfl ?_
          refine am_goto (q := 78) C dX11_item_73 (by decide) ?_
          refine am_iret C T dX11_item_78 rfl (Nat.le_refl _) (Nat.le_refl _) ⟨_, rfl, ?_⟩
          have e1 : itemA σ (i : Int) s k = (sF σ i k.toNat).toInt32 := by
            unfold itemA
            try simp only [Int.toNat_natCast]
            first | (rw [if_neg (by omega)]; done) | (rw [if_pos (by omega), if_pos (by omega)]; done) | (rw [if_pos (by omega), if_neg (by omega), if_neg (by omega)]; done) | (rw [if_pos (by omega), if_neg (by omega), if_pos (by omega), if_neg (by omega)]; done) | (rw [if_pos (by omega), if_neg (by omega), if_pos (by omega), if_pos (by omega)]; done)
          rw [e1]
          exact ⟨rfl, _, _, rfl, hM, frM_refl⟩
      · refine am_aload_n (q := 29) C dX11_item_28 rfl rfl ?_
        refine am_getR (q := 32) C fb_X11_77 dX11_item_29 rfl rfl kk_191 (show 191 < 215 by decide) kr_191_45 ?_
        refine am_iload_n (q := 33) C dX11_item_32 rfl rfl ?_
        refine am_ialoadZ (q := 34) i C dX11_item_33 rfl kk_212 (show 212 < 215 by decide) rfl (by omega) (by decide) ?_
        refine am_intE (y := (iZ (sS σ i))) a1 ?_
        refine am_ifZ_ge (q := 37) (tgt := 42) C dX11_item_34 (by decide) rfl ⟨by omega, by omega⟩ (fun g3 => ?_) (fun g3 => ?_)
        · refine am_bipush (q := 44) (v := iZ (-13)) C dX11_item_42 rfl rfl ?_
          refine am_iret C T dX11_item_44 rfl (Nat.le_refl _) (Nat.le_refl _) ⟨_, rfl, ?_⟩
          have e1 : itemA σ (i : Int) s k = iZ (-13) := by
            unfold itemA
            try simp only [Int.toNat_natCast]
            first | (rw [if_neg (by omega)]; done) | (rw [if_pos (by omega), if_pos (by omega)]; done) | (rw [if_pos (by omega), if_neg (by omega), if_neg (by omega)]; done) | (rw [if_pos (by omega), if_neg (by omega), if_pos (by omega), if_neg (by omega)]; done) | (rw [if_pos (by omega), if_neg (by omega), if_pos (by omega), if_pos (by omega)]; done)
          rw [e1]
          exact ⟨rfl, _, _, rfl, hM, frM_refl⟩
        · refine am_bipush (q := 39) (v := iZ (-11)) C dX11_item_37 rfl rfl ?_
          refine am_goto (q := 44) C dX11_item_39 (by decide) ?_
          refine am_iret C T dX11_item_44 rfl (Nat.le_refl _) (Nat.le_refl _) ⟨_, rfl, ?_⟩
          have e1 : itemA σ (i : Int) s k = iZ (-11) := by
            unfold itemA
            try simp only [Int.toNat_natCast]
            first | (rw [if_neg (by omega)]; done) | (rw [if_pos (by omega), if_pos (by omega)]; done) | (rw [if_pos (by omega), if_neg (by omega), if_neg (by omega)]; done) | (rw [if_pos (by omega), if_neg (by omega), if_pos (by omega), if_neg (by omega)]; done) | (rw [if_pos (by omega), if_neg (by omega), if_pos (by omega), if_pos (by omega)]; done)
          rw [e1]
          exact ⟨rfl, _, _, rfl, hM, frM_refl⟩
    · refine am_iconst (q := 17) (v := iZ (-1)) C dX11_item_16 rfl rfl ?_
      refine am_iret C T dX11_item_17 rfl (Nat.le_refl _) (Nat.le_refl _) ⟨_, rfl, ?_⟩
      have e1 : itemA σ p s k = iZ (-1) := by
        unfold itemA
        try simp only [Int.toNat_natCast]
        first | (rw [if_neg (by omega)]; done) | (rw [if_pos (by omega), if_pos (by omega)]; done) | (rw [if_pos (by omega), if_neg (by omega), if_neg (by omega)]; done) | (rw [if_pos (by omega), if_neg (by omega), if_pos (by omega), if_neg (by omega)]; done) | (rw [if_pos (by omega), if_neg (by omega), if_pos (by omega), if_pos (by omega)]; done)
      rw [e1]
      exact ⟨rfl, _, _, rfl, hM, frM_refl⟩
def lackA (σ : SG) (p w : Int) : Int := if 0 ≤ p ∧ p < 4 then refT (sS σ p.toNat) w else -1
set_option maxRecDepth 4000 in
theorem sp_X11_lacks {σ : SG} (hM : atM I J σ) {p w : Int} (hp : rg p) (hw : rg w) : am_S G mX11_lacks 3 0 0 [.ref 191, .int (iZ p), .int (iZ w)] (215, kK, kR, I, J) (am_fi (iZ (lackA σ p w)) (215, kK, kR, I, J)) := by
  refine am_spec (plainFor_of_name (by decide +kernel)) (Nat.le_of_ble_eq_true rfl) (L := [some (.ref 191), some (.int (iZ p)), some (.int (iZ w))]) rfl (fun X C T => ?_)
  refine am_iload_n (q := 1) C dX11_lacks_0 rfl rfl ?_
  refine am_callS (q := 4) (As := [.int (iZ p)]) (rest := []) C mb_X11_isSheet st_X11_isSheet ml_X11_300 dX11_lacks_1 rfl (sp_X11_isSheet hp) rfl rfl ⟨by decide, by decide⟩ ⟨Nat.le_refl _, Nat.le_refl _⟩ (Nat.le_of_ble_eq_true rfl) (am_rie ?_)
  refine am_ifB_eq (q := 7) (tgt := 17) C dX11_lacks_4 (by decide) rfl (fun c1 => ?_) (fun c1 => ?_)
  · refine am_iconst (q := 18) (v := iZ (-1)) C dX11_lacks_17 rfl rfl ?_
    refine am_iret C T dX11_lacks_18 rfl (Nat.le_refl _) (Nat.le_refl _) ⟨_, rfl, ?_⟩
    have e1 : lackA σ p w = (-1) := by
      unfold lackA
      try simp only [Int.toNat_natCast]
      unfold refT
      first | (rw [if_neg (by omega)]; done) | (rw [if_pos (by omega), if_pos (by omega)]; done) | (rw [if_pos (by omega), if_neg (by omega), if_pos (by omega)]; done) | (rw [if_pos (by omega), if_neg (by omega), if_neg (by omega), if_pos (by omega)]; done) | (rw [if_pos (by omega), if_neg (by omega), if_neg (by omega), if_neg (by omega)]; done)
    rw [e1]
    exact ⟨rfl, rfl⟩
  · refine am_iload_n (q := 8) C dX11_lacks_7 rfl rfl ?_
    refine am_iconst (q := 9) (v := iZ 1) C dX11_lacks_8 rfl rfl ?_
    refine am_bipush (q := 11) (v := iZ 10) C dX11_lacks_9 rfl rfl ?_
    refine am_callS (q := 14) (As := [.int (iZ w), .int (iZ 1), .int (iZ 10)]) (rest := []) C mb_X11_in st_X11_in ml_X11_89 dX11_lacks_11 rfl (sp_X11_in (v := w) (a := 1) (b := 10) hw ⟨by omega, by omega⟩ ⟨by omega, by omega⟩) rfl rfl ⟨by decide, by decide⟩ ⟨Nat.le_refl _, Nat.le_refl _⟩ (Nat.le_of_ble_eq_true rfl) (am_rie ?_)
    refine am_ifB_ne (q := 17) (tgt := 19) C dX11_lacks_14 (by decide) rfl (fun c2 => ?_) (fun c2 => ?_)
    · obtain ⟨i, rfl⟩ : ∃ q : Nat, p = q := ⟨p.toNat, by omega⟩
      have hi : i < 4 := by omega
      obtain ⟨a1, a2, a3, a4, a5, a6⟩ := hM.2.2.2.2.2.2.2 i hi
      refine am_aload_n (q := 20) C dX11_lacks_19 rfl rfl ?_
      refine am_getR (q := 23) C fb_X11_77 dX11_lacks_20 rfl rfl kk_191 (show 191 < 215 by decide) kr_191_45 ?_
      refine am_iload_n (q := 24) C dX11_lacks_23 rfl rfl ?_
      refine am_ialoadZ (q := 25) i C dX11_lacks_24 rfl kk_212 (show 212 < 215 by decide) rfl (by omega) (by decide) ?_
      refine am_intE (y := (iZ (sS σ i))) a1 ?_
      refine am_ifZ_ge (q := 28) (tgt := 33) C dX11_lacks_25 (by decide) rfl ⟨by omega, by omega⟩ (fun g1 => ?_) (fun g1 => ?_)
      · refine am_aload_n (q := 34) C dX11_lacks_33 rfl rfl ?_
        refine am_getR (q := 37) C fb_X11_77 dX11_lacks_34 rfl rfl kk_191 (show 191 < 215 by decide) kr_191_45 ?_
        refine am_iload_n (q := 38) C dX11_lacks_37 rfl rfl ?_
        refine am_ialoadZ (q := 39) i C dX11_lacks_38 rfl kk_212 (show 212 < 215 by decide) rfl (by omega) (by decide) ?_
        refine am_intE (y := (iZ (sS σ i))) a1 ?_
        refine am_iconst (q := 40) (v := iZ 2) C dX11_lacks_39 rfl rfl ?_
        refine am_icmpZ_ne (q := 43) (tgt := 48) C dX11_lacks_40 (by decide) rfl ⟨by omega, by omega⟩ ⟨by omega, by omega⟩ (fun g2 => ?_) (fun g2 => ?_)
        · refine am_iconst (q := 49) (v := iZ 0) C dX11_lacks_48 rfl rfl ?_
          refine am_iret C T dX11_lacks_49 rfl (Nat.le_refl _) (Nat.le_refl _) ⟨_, rfl, ?_⟩
          have e1 : lackA σ (i : Int) w = 0 := by
            unfold lackA
            try simp only [Int.toNat_natCast]
            unfold refT
            first | (rw [if_neg (by omega)]; done) | (rw [if_pos (by omega), if_pos (by omega)]; done) | (rw [if_pos (by omega), if_neg (by omega), if_pos (by omega)]; done) | (rw [if_pos (by omega), if_neg (by omega), if_neg (by omega), if_pos (by omega)]; done) | (rw [if_pos (by omega), if_neg (by omega), if_neg (by omega), if_neg (by omega)]; done)
          rw [e1]
          exact ⟨rfl, rfl⟩
        · refine am_bipush (q := 45) (v := iZ (-13)) C dX11_lacks_43 rfl rfl ?_
          refine am_goto (q := 49) C dX11_lacks_45 (by decide) ?_
          refine am_iret C T dX11_lacks_49 rfl (Nat.le_refl _) (Nat.le_refl _) ⟨_, rfl, ?_⟩
          have e1 : lackA σ (i : Int) w = (-13) := by
            unfold lackA
            try simp only [Int.toNat_natCast]
            unfold refT
            first | (rw [if_neg (by omega)]; done) | (rw [if_pos (by omega), if_pos (by omega)]; done) | (rw [if_pos (by omega), if_neg (by omega), if_pos (by omega)]; done) | (rw [if_pos (by omega), if_neg (by omega), if_neg (by omega), if_pos (by omega)]; done) | (rw [if_pos (by omega), if_neg (by omega), if_neg (by omega), if_neg (by omega)]; done)
          rw [e1]
          exact ⟨rfl, rfl⟩
      · refine am_bipush (q := 30) (v := iZ (-11)) C dX11_lacks_28 rfl rfl ?_
        refine am_goto (q := 49) C dX11_lacks_30 (by decide) ?_
        refine am_iret C T dX11_lacks_49 rfl (Nat.le_refl _) (Nat.le_refl _) ⟨_, rfl, ?_⟩
        have e1 : lackA σ (i : Int) w = (-11) := by
          unfold lackA
          try simp only [Int.toNat_natCast]
          unfold refT
          first | (rw [if_neg (by omega)]; done) | (rw [if_pos (by omega), if_pos (by omega)]; done) | (rw [if_pos (by omega), if_neg (by omega), if_pos (by omega)]; done) | (rw [if_pos (by omega), if_neg (by omega), if_neg (by omega), if_pos (by omega)]; done) | (rw [if_pos (by omega), if_neg (by omega), if_neg (by omega), if_neg (by omega)]; done)
        rw [e1]
        exact ⟨rfl, rfl⟩
    · refine am_iconst (q := 18) (v := iZ (-1)) C dX11_lacks_17 rfl rfl ?_
      refine am_iret C T dX11_lacks_18 rfl (Nat.le_refl _) (Nat.le_refl _) ⟨_, rfl, ?_⟩
      have e1 : lackA σ p w = (-1) := by
        unfold lackA
        try simp only [Int.toNat_natCast]
        unfold refT
        first | (rw [if_neg (by omega)]; done) | (rw [if_pos (by omega), if_pos (by omega)]; done) | (rw [if_pos (by omega), if_neg (by omega), if_pos (by omega)]; done) | (rw [if_pos (by omega), if_neg (by omega), if_neg (by omega), if_pos (by omega)]; done) | (rw [if_pos (by omega), if_neg (by omega), if_neg (by omega), if_neg (by omega)]; done)
      rw [e1]
      exact ⟨rfl, rfl⟩
set_option maxRecDepth 4000 in
theorem sp_X11_sheet {σ : SG} (hM : atM I J σ) {p s n : Int} (hp : rg p) (hs : rg s) (hn : rg n) : am_S G mX11_sheet 3 0 0 [.ref 191, .int (iZ p), .int (iZ s), .int (iZ n)] (215, kK, kR, I, J) (am_qi (fun v w' => v = iZ (sheetA p s n) ∧ ∃ (I' : Nat → Nat → Int32) (J' : Nat → Nat → Int64), w' = (215, kK, kR, I', J') ∧ atM I' J' (sheetT σ p s n) ∧ frM I J I' J')) := by
  refine am_spec (plainFor_of_name (by decide +kernel)) (Nat.le_of_ble_eq_true rfl) (L := [some (.ref 191), some (.int (iZ p)), some (.int (iZ s)), some (.int (iZ n)), none]) rfl (fun X C T => ?_)
  refine am_iload_n (q := 1) C dX11_sheet_0 rfl rfl ?_
  refine am_callS (q := 4) (As := [.int (iZ p)]) (rest := []) C mb_X11_isSheet st_X11_isSheet ml_X11_300 dX11_sheet_1 rfl (sp_X11_isSheet hp) rfl rfl ⟨by decide, by decide⟩ ⟨Nat.le_refl _, Nat.le_refl _⟩ (Nat.le_of_ble_eq_true rfl) (am_rie ?_)
  refine am_ifB_eq (q := 7) (tgt := 26) C dX11_sheet_4 (by decide) rfl (fun c1 => ?_) (fun c1 => ?_)
  · refine am_iconst (q := 27) (v := iZ (-1)) C dX11_sheet_26 rfl rfl ?_
    refine am_iret C T dX11_sheet_27 rfl (Nat.le_refl _) (Nat.le_refl _) ⟨_, rfl, ?_⟩
    have e1 : sheetA p s n = (-1) := by
      unfold sheetA
      try simp only [Int.toNat_natCast]
      first | (rw [if_neg (by omega)]; done) | (rw [if_pos (by omega), if_pos (by omega)]; done) | (rw [if_pos (by omega), if_neg (by omega), if_pos (by omega)]; done) | (rw [if_pos (by omega), if_neg (by omega), if_neg (by omega), if_pos (by omega)]; done) | (rw [if_pos (by omega), if_neg (by omega), if_neg (by omega), if_neg (by omega)]; done)
    have e2 : sheetT σ p s n = σ := by
      unfold sheetT
      try simp only [Int.toNat_natCast]
      first | (rw [if_neg (by omega)]; done) | (rw [if_pos (by omega), if_pos (by omega)]; done) | (rw [if_pos (by omega), if_neg (by omega), if_pos (by omega)]; done) | (rw [if_pos (by omega), if_neg (by omega), if_neg (by omega), if_pos (by omega)]; done) | (rw [if_pos (by omega), if_neg (by omega), if_neg (by omega), if_neg (by omega)]; done)
    rw [e1, e2]
    exact ⟨rfl, _, _, rfl, hM, frM_refl⟩
  · refine am_iload_n (q := 8) C dX11_sheet_7 rfl rfl ?_
    refine am_iconst (q := 9) (v := iZ (-1)) C dX11_sheet_8 rfl rfl ?_
    refine am_iconst (q := 10) (v := iZ 2) C dX11_sheet_9 rfl rfl ?_
    refine am_callS (q := 13) (As := [.int (iZ s), .int (iZ (-1)), .int (iZ 2)]) (rest := []) C mb_X11_in st_X11_in ml_X11_89 dX11_sheet_10 rfl (sp_X11_in (v := s) (a := (-1)) (b := 2) hs ⟨by omega, by omega⟩ ⟨by omega, by omega⟩) rfl rfl ⟨by decide, by decide⟩ ⟨Nat.le_refl _, Nat.le_refl _⟩ (Nat.le_of_ble_eq_true rfl) (am_rie ?_)
    refine am_ifB_eq (q := 16) (tgt := 26) C dX11_sheet_13 (by decide) rfl (fun c2 => ?_) (fun c2 => ?_)
    · refine am_iconst (q := 27) (v := iZ (-1)) C dX11_sheet_26 rfl rfl ?_
      refine am_iret C T dX11_sheet_27 rfl (Nat.le_refl _) (Nat.le_refl _) ⟨_, rfl, ?_⟩
      have e1 : sheetA p s n = (-1) := by
        unfold sheetA
        try simp only [Int.toNat_natCast]
        first | (rw [if_neg (by omega)]; done) | (rw [if_pos (by omega), if_pos (by omega)]; done) | (rw [if_pos (by omega), if_neg (by omega), if_pos (by omega)]; done) | (rw [if_pos (by omega), if_neg (by omega), if_neg (by omega), if_pos (by omega)]; done) | (rw [if_pos (by omega), if_neg (by omega), if_neg (by omega), if_neg (by omega)]; done)
      have e2 : sheetT σ p s n = σ := by
        unfold sheetT
        try simp only [Int.toNat_natCast]
        first | (rw [if_neg (by omega)]; done) | (rw [if_pos (by omega), if_pos (by omega)]; done) | (rw [if_pos (by omega), if_neg (by omega), if_pos (by omega)]; done) | (rw [if_pos (by omega), if_neg (by omega), if_neg (by omega), if_pos (by omega)]; done) | (rw [if_pos (by omega), if_neg (by omega), if_neg (by omega), if_neg (by omega)]; done)
      rw [e1, e2]
      exact ⟨rfl, _, _, rfl, hM, frM_refl⟩
    · refine am_iload_n (q := 17) C dX11_sheet_16 rfl rfl ?_
      refine am_ifZ_lt (q := 20) (tgt := 28) C dX11_sheet_17 (by decide) rfl hs (fun c3 => ?_) (fun c3 => ?_)
      · refine am_iload_n (q := 29) C dX11_sheet_28 rfl rfl ?_
        refine am_ifZ_lt (q := 32) (tgt := 39) C dX11_sheet_29 (by decide) rfl hs (fun c4 => ?_) (fun c4 => ?_)
        · obtain ⟨i, rfl⟩ : ∃ q : Nat, p = q := ⟨p.toNat, by omega⟩
          have hi : i < 4 := by omega
          obtain ⟨a1, a2, a3, a4, a5, a6⟩ := hM.2.2.2.2.2.2.2 i hi
          refine am_aload_n (q := 40) C dX11_sheet_39 rfl rfl ?_
          refine am_getR (q := 43) C fb_X11_77 dX11_sheet_40 rfl rfl kk_191 (show 191 < 215 by decide) kr_191_45 ?_
          refine am_iload_n (q := 44) C dX11_sheet_43 rfl rfl ?_
          refine am_iload_n (q := 45) C dX11_sheet_44 rfl rfl ?_
          refine am_iastoreZ (q := 46) i C dX11_sheet_45 rfl kk_212 (show 212 < 215 by decide) rfl (by omega) (by decide) ?_
          refine am_aload_n (q := 47) C dX11_sheet_46 rfl rfl ?_
          refine am_getR (q := 50) C fb_X11_80 dX11_sheet_47 rfl rfl kk_191 (show 191 < 215 by decide) kr_191_46 ?_
          refine am_iload_n (q := 51) C dX11_sheet_50 rfl rfl ?_
          refine am_iload_n (q := 52) C dX11_sheet_51 rfl rfl ?_
          refine am_ifZ_ge (q := 55) (tgt := 59) C dX11_sheet_52 (by decide) rfl hs (fun g1 => ?_) (fun g1 => ?_)
          · refine am_iload_n (q := 60) C dX11_sheet_59 rfl rfl ?_
            refine am_iastoreZ (q := 61) i C dX11_sheet_60 rfl kk_213 (show 213 < 215 by decide) rfl (by omega) (by decide) ?_
            have lp : ∀ (fuel : Nat) (q : Nat) (I1 : Nat → Nat → Int32) (J1 : Nat → Nat → Int64), (q ≤ 60) → (I1 = (am_up (am_up I 212 i (iZ s)) 213 i (iZ n))) → (∀ x, x ≠ 214 → J1 x = J x) → (∀ j, j < q → J1 214 (60 * i + j) = 0) → (∀ j, j < 60 * i ∨ 60 * i + 60 ≤ j → J1 214 j = J 214 j) → (60 - q) < fuel → am_A G mX11_sheet X (am_rm 3 0 0) 64 [some (.ref 191), some (.int (iZ (i : Int))), some (.int (iZ s)), some (.int (iZ n)), some (.int (iZ (q : Int)))] [] (215, kK, kR, I1, J1) 0 0 := by
              intro fuel
              induction fuel with
              | zero => intro q I1 J1 hq hIe hJ hz hO hf; exact absurd hf (Nat.not_lt_zero _)
              | succ fuel ih =>
                intro q I1 J1 hq hIe hJ hz hO hf
                refine am_iload (q := 66) C dX11_sheet_64 rfl rfl ?_
                refine am_bipush (q := 68) (v := iZ 60) C dX11_sheet_66 rfl rfl ?_
                refine am_icmpZ_ge (q := 71) (tgt := 90) C dX11_sheet_68 (by decide) rfl ⟨by omega, by omega⟩ ⟨by omega, by omega⟩ (fun e1 => ?_) (fun e1 => ?_)
                · refine am_iconst (q := 91) (v := iZ 1) C dX11_sheet_90 rfl rfl ?_
                  refine am_iret C T dX11_sheet_91 rfl (Nat.le_refl _) (Nat.le_refl _) ⟨_, rfl, ?_⟩
                  have e1 : sheetA (i : Int) s n = 1 := by
                    unfold sheetA
                    try simp only [Int.toNat_natCast]
                    first | (rw [if_neg (by omega)]; done) | (rw [if_pos (by omega), if_pos (by omega)]; done) | (rw [if_pos (by omega), if_neg (by omega), if_pos (by omega)]; done) | (rw [if_pos (by omega), if_neg (by omega), if_neg (by omega), if_pos (by omega)]; done) | (rw [if_pos (by omega), if_neg (by omega), if_neg (by omega), if_neg (by omega)]; done)
                  have e2 : sheetT σ (i : Int) s n = shS σ i s (n.toNat) (fun _ => 0) := by
                    unfold sheetT
                    try simp only [Int.toNat_natCast]
                    rw [if_pos (by omega), if_neg (by omega), if_neg (by omega), if_neg (by omega)]
                  rw [e1, e2]
                  refine ⟨rfl, _, _, rfl, atM_sh hM ⟨?_, ?_, by omega, by omega, by omega, fun j hj => hz j (by omega)⟩ (fun x h1 h2 => ?_) hJ (fun j hj => ⟨?_, ?_⟩) (fun j k hj hk => hO _ (by omega)), fun x hx => ⟨?_, hJ x (by omega)⟩⟩
                  · rw [hIe, am_up_row _ _ _ _ (by decide), am_up_eq]
                  · rw [hIe, am_up_eq]; first | rfl | exact congrArg iZ (by omega)
                  · rw [hIe, am_up_row _ _ _ _ h2, am_up_row _ _ _ _ h1]
                  · rw [hIe, am_up_row _ _ _ _ (by decide), am_up_ne _ _ _ _ (Or.inr hj)]
                  · rw [hIe, am_up_ne _ _ _ _ (Or.inr hj), am_up_row _ _ _ _ (by decide)]
                  · rw [hIe, am_up_row _ _ _ _ (by omega), am_up_row _ _ _ _ (by omega)]
                · refine am_aload_n (q := 72) C dX11_sheet_71 rfl rfl ?_
                  refine am_getR (q := 75) C fb_X11_83 dX11_sheet_72 rfl rfl kk_191 (show 191 < 215 by decide) kr_191_47 ?_
                  refine am_bipush (q := 77) (v := iZ 60) C dX11_sheet_75 rfl rfl ?_
                  refine am_iload_n (q := 78) C dX11_sheet_77 rfl rfl ?_
                  refine am_imulZ (q := 79) C dX11_sheet_78 rfl ?_
                  refine am_iload (q := 81) C dX11_sheet_79 rfl rfl ?_
                  refine am_iaddZ (q := 82) C dX11_sheet_81 rfl ?_
                  refine am_lconst (q := 83) (v := lN 0) C dX11_sheet_82 rfl rfl ?_
                  refine am_lastoreZ (q := 84) (60 * i + q) C dX11_sheet_83 rfl kk_214 (show 214 < 215 by decide) (by omega) (by omega) (by decide) ?_
                  refine am_iincZ (q := 87) (L' := [some (.ref 191), some (.int (iZ (i : Int))), some (.int (iZ s)), some (.int (iZ n)), some (.int (iZ ((q + 1 : Nat) : Int)))]) C dX11_sheet_84 rfl rfl (by omega) (by decide) rfl rfl ?_
                  refine am_goto (q := 64) C dX11_sheet_87 (by decide) ?_
                  refine ih (q + 1) _ _ (by omega) hIe (fun x hx => by rw [am_up_row _ _ _ _ hx]; exact hJ x hx) (fun j hj => ?_) (fun j hj => ?_) (by omega)
                  · by_cases e : j = q
                    · subst e; exact am_up_eq _ _ _ _
                    · rw [am_up_ne _ _ _ _ (Or.inr (by omega))]; exact hz j (by omega)
                  · rw [am_up_ne _ _ _ _ (Or.inr (by omega))]; exact hO j hj
            refine am_iconst (q := 62) (v := iZ 0) C dX11_sheet_61 rfl rfl ?_
            refine am_istore (q := 64) (L' := [some (.ref 191), some (.int (iZ (i : Int))), some (.int (iZ s)), some (.int (iZ n)), some (.int (iZ 0))]) C dX11_sheet_62 rfl (by decide) rfl rfl ?_
            exact lp 61 0 _ J (by omega) rfl (fun x _ => rfl) (fun j hj => absurd hj (Nat.not_lt_zero _)) (fun j _ => rfl) (by omega)
          · refine am_iconst (q := 56) (v := iZ 0) C dX11_sheet_55 rfl rfl ?_
            refine am_goto (q := 60) C dX11_sheet_56 (by decide) ?_
            refine am_iastoreZ (q := 61) i C dX11_sheet_60 rfl kk_213 (show 213 < 215 by decide) rfl (by omega) (by decide) ?_
            have lp : ∀ (fuel : Nat) (q : Nat) (I1 : Nat → Nat → Int32) (J1 : Nat → Nat → Int64), (q ≤ 60) → (I1 = (am_up (am_up I 212 i (iZ s)) 213 i (iZ 0))) → (∀ x, x ≠ 214 → J1 x = J x) → (∀ j, j < q → J1 214 (60 * i + j) = 0) → (∀ j, j < 60 * i ∨ 60 * i + 60 ≤ j → J1 214 j = J 214 j) → (60 - q) < fuel → am_A G mX11_sheet X (am_rm 3 0 0) 64 [some (.ref 191), some (.int (iZ (i : Int))), some (.int (iZ s)), some (.int (iZ n)), some (.int (iZ (q : Int)))] [] (215, kK, kR, I1, J1) 0 0 := by
              intro fuel
              induction fuel with
              | zero => intro q I1 J1 hq hIe hJ hz hO hf; exact absurd hf (Nat.not_lt_zero _)
              | succ fuel ih =>
                intro q I1 J1 hq hIe hJ hz hO hf
                refine am_iload (q := 66) C dX11_sheet_64 rfl rfl ?_
                refine am_bipush (q := 68) (v := iZ 60) C dX11_sheet_66 rfl rfl ?_
                refine am_icmpZ_ge (q := 71) (tgt := 90) C dX11_sheet_68 (by decide) rfl ⟨by omega, by omega⟩ ⟨by omega, by omega⟩ (fun e1 => ?_) (fun e1 => ?_)
                · refine am_iconst (q := 91) (v := iZ 1) C dX11_sheet_90 rfl rfl ?_
                  refine am_iret C T dX11_sheet_91 rfl (Nat.le_refl _) (Nat.le_refl _) ⟨_, rfl, ?_⟩
                  have e1 : sheetA (i : Int) s n = 1 := by
                    unfold sheetA
                    try simp only [Int.toNat_natCast]
                    first | (rw [if_neg (by omega)]; done) | (rw [if_pos (by omega), if_pos (by omega)]; done) | (rw [if_pos (by omega), if_neg (by omega), if_pos (by omega)]; done) | (rw [if_pos (by omega), if_neg (by omega), if_neg (by omega), if_pos (by omega)]; done) | (rw [if_pos (by omega), if_neg (by omega), if_neg (by omega), if_neg (by omega)]; done)
                  have e2 : sheetT σ (i : Int) s n = shS σ i s (0) (fun _ => 0) := by
                    unfold sheetT
                    try simp only [Int.toNat_natCast]
                    rw [if_pos (by omega), if_pos (by omega), show s = -1 by omega]
                  rw [e1, e2]
                  refine ⟨rfl, _, _, rfl, atM_sh hM ⟨?_, ?_, by omega, by omega, by omega, fun j hj => hz j (by omega)⟩ (fun x h1 h2 => ?_) hJ (fun j hj => ⟨?_, ?_⟩) (fun j k hj hk => hO _ (by omega)), fun x hx => ⟨?_, hJ x (by omega)⟩⟩
                  · rw [hIe, am_up_row _ _ _ _ (by decide), am_up_eq]
                  · rw [hIe, am_up_eq]; first | rfl | exact congrArg iZ (by omega)
                  · rw [hIe, am_up_row _ _ _ _ h2, am_up_row _ _ _ _ h1]
                  · rw [hIe, am_up_row _ _ _ _ (by decide), am_up_ne _ _ _ _ (Or.inr hj)]
                  · rw [hIe, am_up_ne _ _ _ _ (Or.inr hj), am_up_row _ _ _ _ (by decide)]
                  · rw [hIe, am_up_row _ _ _ _ (by omega), am_up_row _ _ _ _ (by omega)]
                · refine am_aload_n (q := 72) C dX11_sheet_71 rfl rfl ?_
                  refine am_getR (q := 75) C fb_X11_83 dX11_sheet_72 rfl rfl kk_191 (show 191 < 215 by decide) kr_191_47 ?_
                  refine am_bipush (q := 77) (v := iZ 60) C dX11_sheet_75 rfl rfl ?_
                  refine am_iload_n (q := 78) C dX11_sheet_77 rfl rfl ?_
                  refine am_imulZ (q := 79) C dX11_sheet_78 rfl ?_
                  refine am_iload (q := 81) C dX11_sheet_79 rfl rfl ?_
                  refine am_iaddZ (q := 82) C dX11_sheet_81 rfl ?_
                  refine am_lconst (q := 83) (v := lN 0) C dX11_sheet_82 rfl rfl ?_
                  refine am_lastoreZ (q := 84) (60 * i + q) C dX11_sheet_83 rfl kk_214 (show 214 < 215 by decide) (by omega) (by omega) (by decide) ?_
                  refine am_iincZ (q := 87) (L' := [some (.ref 191), some (.int (iZ (i : Int))), some (.int (iZ s)), some (.int (iZ n)), some (.int (iZ ((q + 1 : Nat) : Int)))]) C dX11_sheet_84 rfl rfl (by omega) (by decide) rfl rfl ?_
                  refine am_goto (q := 64) C dX11_sheet_87 (by decide) ?_
                  refine ih (q + 1) _ _ (by omega) hIe (fun x hx => by rw [am_up_row _ _ _ _ hx]; exact hJ x hx) (fun j hj => ?_) (fun j hj => ?_) (by omega)
                  · by_cases e : j = q
                    · subst e; exact am_up_eq _ _ _ _
                    · rw [am_up_ne _ _ _ _ (Or.inr (by omega))]; exact hz j (by omega)
                  · rw [am_up_ne _ _ _ _ (Or.inr (by omega))]; exact hO j hj
            refine am_iconst (q := 62) (v := iZ 0) C dX11_sheet_61 rfl rfl ?_
            refine am_istore (q := 64) (L' := [some (.ref 191), some (.int (iZ (i : Int))), some (.int (iZ s)), some (.int (iZ n)), some (.int (iZ 0))]) C dX11_sheet_62 rfl (by decide) rfl rfl ?_
            exact lp 61 0 _ J (by omega) rfl (fun x _ => rfl) (fun j hj => absurd hj (Nat.not_lt_zero _)) (fun j _ => rfl) (by omega)
        · refine am_iload_n (q := 33) C dX11_sheet_32 rfl rfl ?_
          refine am_ifZ_ge (q := 36) (tgt := 39) C dX11_sheet_33 (by decide) rfl hn (fun c5 => ?_) (fun c5 => ?_)
          · obtain ⟨i, rfl⟩ : ∃ q : Nat, p = q := ⟨p.toNat, by omega⟩
            have hi : i < 4 := by omega
            obtain ⟨a1, a2, a3, a4, a5, a6⟩ := hM.2.2.2.2.2.2.2 i hi
            refine am_aload_n (q := 40) C dX11_sheet_39 rfl rfl ?_
            refine am_getR (q := 43) C fb_X11_77 dX11_sheet_40 rfl rfl kk_191 (show 191 < 215 by decide) kr_191_45 ?_
            refine am_iload_n (q := 44) C dX11_sheet_43 rfl rfl ?_
            refine am_iload_n (q := 45) C dX11_sheet_44 rfl rfl ?_
            refine am_iastoreZ (q := 46) i C dX11_sheet_45 rfl kk_212 (show 212 < 215 by decide) rfl (by omega) (by decide) ?_
            refine am_aload_n (q := 47) C dX11_sheet_46 rfl rfl ?_
            refine am_getR (q := 50) C fb_X11_80 dX11_sheet_47 rfl rfl kk_191 (show 191 < 215 by decide) kr_191_46 ?_
            refine am_iload_n (q := 51) C dX11_sheet_50 rfl rfl ?_
            refine am_iload_n (q := 52) C dX11_sheet_51 rfl rfl ?_
            refine am_ifZ_ge (q := 55) (tgt := 59) C dX11_sheet_52 (by decide) rfl hs (fun g1 => ?_) (fun g1 => ?_)
            · refine am_iload_n (q := 60) C dX11_sheet_59 rfl rfl ?_
              refine am_iastoreZ (q := 61) i C dX11_sheet_60 rfl kk_213 (show 213 < 215 by decide) rfl (by omega) (by decide) ?_
              have lp : ∀ (fuel : Nat) (q : Nat) (I1 : Nat → Nat → Int32) (J1 : Nat → Nat → Int64), (q ≤ 60) → (I1 = (am_up (am_up I 212 i (iZ s)) 213 i (iZ n))) → (∀ x, x ≠ 214 → J1 x = J x) → (∀ j, j < q → J1 214 (60 * i + j) = 0) → (∀ j, j < 60 * i ∨ 60 * i + 60 ≤ j → J1 214 j = J 214 j) → (60 - q) < fuel → am_A G mX11_sheet X (am_rm 3 0 0) 64 [some (.ref 191), some (.int (iZ (i : Int))), some (.int (iZ s)), some (.int (iZ n)), some (.int (iZ (q : Int)))] [] (215, kK, kR, I1, J1) 0 0 := by
                intro fuel
                induction fuel with
                | zero => intro q I1 J1 hq hIe hJ hz hO hf; exact absurd hf (Nat.not_lt_zero _)
                | succ fuel ih =>
                  intro q I1 J1 hq hIe hJ hz hO hf
                  refine am_iload (q := 66) C dX11_sheet_64 rfl rfl ?_
                  refine am_bipush (q := 68) (v := iZ 60) C dX11_sheet_66 rfl rfl ?_
                  refine am_icmpZ_ge (q := 71) (tgt := 90) C dX11_sheet_68 (by decide) rfl ⟨by omega, by omega⟩ ⟨by omega, by omega⟩ (fun e1 => ?_) (fun e1 => ?_)
                  · refine am_iconst (q := 91) (v := iZ 1) C dX11_sheet_90 rfl rfl ?_
                    refine am_iret C T dX11_sheet_91 rfl (Nat.le_refl _) (Nat.le_refl _) ⟨_, rfl, ?_⟩
                    have e1 : sheetA (i : Int) s n = 1 := by
                      unfold sheetA
                      try simp only [Int.toNat_natCast]
                      first | (rw [if_neg (by omega)]; done) | (rw [if_pos (by omega), if_pos (by omega)]; done) | (rw [if_pos (by omega), if_neg (by omega), if_pos (by omega)]; done) | (rw [if_pos (by omega), if_neg (by omega), if_neg (by omega), if_pos (by omega)]; done) | (rw [if_pos (by omega), if_neg (by omega), if_neg (by omega), if_neg (by omega)]; done)
                    have e2 : sheetT σ (i : Int) s n = shS σ i s (n.toNat) (fun _ => 0) := by
                      unfold sheetT
                      try simp only [Int.toNat_natCast]
                      rw [if_pos (by omega), if_neg (by omega), if_neg (by omega), if_neg (by omega)]
                    rw [e1, e2]
                    refine ⟨rfl, _, _, rfl, atM_sh hM ⟨?_, ?_, by omega, by omega, by omega, fun j hj => hz j (by omega)⟩ (fun x h1 h2 => ?_) hJ (fun j hj => ⟨?_, ?_⟩) (fun j k hj hk => hO _ (by omega)), fun x hx => ⟨?_, hJ x (by omega)⟩⟩
                    · rw [hIe, am_up_row _ _ _ _ (by decide), am_up_eq]
                    · rw [hIe, am_up_eq]; first | rfl | exact congrArg iZ (by omega)
                    · rw [hIe, am_up_row _ _ _ _ h2, am_up_row _ _ _ _ h1]
                    · rw [hIe, am_up_row _ _ _ _ (by decide), am_up_ne _ _ _ _ (Or.inr hj)]
                    · rw [hIe, am_up_ne _ _ _ _ (Or.inr hj), am_up_row _ _ _ _ (by decide)]
                    · rw [hIe, am_up_row _ _ _ _ (by omega), am_up_row _ _ _ _ (by omega)]
                  · refine am_aload_n (q := 72) C dX11_sheet_71 rfl rfl ?_
                    refine am_getR (q := 75) C fb_X11_83 dX11_sheet_72 rfl rfl kk_191 (show 191 < 215 by decide) kr_191_47 ?_
                    refine am_bipush (q := 77) (v := iZ 60) C dX11_sheet_75 rfl rfl ?_
                    refine am_iload_n (q := 78) C dX11_sheet_77 rfl rfl ?_
                    refine am_imulZ (q := 79) C dX11_sheet_78 rfl ?_
                    refine am_iload (q := 81) C dX11_sheet_79 rfl rfl ?_
                    refine am_iaddZ (q := 82) C dX11_sheet_81 rfl ?_
                    refine am_lconst (q := 83) (v := lN 0) C dX11_sheet_82 rfl rfl ?_
                    refine am_lastoreZ (q := 84) (60 * i + q) C dX11_sheet_83 rfl kk_214 (show 214 < 215 by decide) (by omega) (by omega) (by decide) ?_
                    refine am_iincZ (q := 87) (L' := [some (.ref 191), some (.int (iZ (i : Int))), some (.int (iZ s)), some (.int (iZ n)), some (.int (iZ ((q + 1 : Nat) : Int)))]) C dX11_sheet_84 rfl rfl (by omega) (by decide) rfl rfl ?_
                    refine am_goto (q := 64) C dX11_sheet_87 (by decide) ?_
                    refine ih (q + 1) _ _ (by omega) hIe (fun x hx => by rw [am_up_row _ _ _ _ hx]; exact hJ x hx) (fun j hj => ?_) (fun j hj => ?_) (by omega)
                    · by_cases e : j = q
                      · subst e; exact am_up_eq _ _ _ _
                      · rw [am_up_ne _ _ _ _ (Or.inr (by omega))]; exact hz j (by omega)
                    · rw [am_up_ne _ _ _ _ (Or.inr (by omega))]; exact hO j hj
              refine am_iconst (q := 62) (v := iZ 0) C dX11_sheet_61 rfl rfl ?_
              refine am_istore (q := 64) (L' := [some (.ref 191), some (.int (iZ (i : Int))), some (.int (iZ s)), some (.int (iZ n)), some (.int (iZ 0))]) C dX11_sheet_62 rfl (by decide) rfl rfl ?_
              exact lp 61 0 _ J (by omega) rfl (fun x _ => rfl) (fun j hj => absurd hj (Nat.not_lt_zero _)) (fun j _ => rfl) (by omega)
            · refine am_iconst (q := 56) (v := iZ 0) C dX11_sheet_55 rfl rfl ?_
              refine am_goto (q := 60) C dX11_sheet_56 (by decide) ?_
              refine am_iastoreZ (q := 61) i C dX11_sheet_60 rfl kk_213 (show 213 < 215 by decide) rfl (by omega) (by decide) ?_
              have lp : ∀ (fuel : Nat) (q : Nat) (I1 : Nat → Nat → Int32) (J1 : Nat → Nat → Int64), (q ≤ 60) → (I1 = (am_up (am_up I 212 i (iZ s)) 213 i (iZ 0))) → (∀ x, x ≠ 214 → J1 x = J x) → (∀ j, j < q → J1 214 (60 * i + j) = 0) → (∀ j, j < 60 * i ∨ 60 * i + 60 ≤ j → J1 214 j = J 214 j) → (60 - q) < fuel → am_A G mX11_sheet X (am_rm 3 0 0) 64 [some (.ref 191), some (.int (iZ (i : Int))), some (.int (iZ s)), some (.int (iZ n)), some (.int (iZ (q : Int)))] [] (215, kK, kR, I1, J1) 0 0 := by
                intro fuel
                induction fuel with
                | zero => intro q I1 J1 hq hIe hJ hz hO hf; exact absurd hf (Nat.not_lt_zero _)
                | succ fuel ih =>
                  intro q I1 J1 hq hIe hJ hz hO hf
                  refine am_iload (q := 66) C dX11_sheet_64 rfl rfl ?_
                  refine am_bipush (q := 68) (v := iZ 60) C dX11_sheet_66 rfl rfl ?_
                  refine am_icmpZ_ge (q := 71) (tgt := 90) C dX11_sheet_68 (by decide) rfl ⟨by omega, by omega⟩ ⟨by omega, by omega⟩ (fun e1 => ?_) (fun e1 => ?_)
                  · refine am_iconst (q := 91) (v := iZ 1) C dX11_sheet_90 rfl rfl ?_
                    refine am_iret C T dX11_sheet_91 rfl (Nat.le_refl _) (Nat.le_refl _) ⟨_, rfl, ?_⟩
                    have e1 : sheetA (i : Int) s n = 1 := by
                      unfold sheetA
                      try simp only [Int.toNat_natCast]
                      first | (rw [if_neg (by omega)]; done) | (rw [if_pos (by omega), if_pos (by omega)]; done) | (rw [if_pos (by omega), if_neg (by omega), if_pos (by omega)]; done) | (rw [if_pos (by omega), if_neg (by omega), if_neg (by omega), if_pos (by omega)]; done) | (rw [if_pos (by omega), if_neg (by omega), if_neg (by omega), if_neg (by omega)]; done)
                    have e2 : sheetT σ (i : Int) s n = shS σ i s (0) (fun _ => 0) := by
                      unfold sheetT
                      try simp only [Int.toNat_natCast]
                      rw [if_pos (by omega), if_pos (by omega), show s = -1 by omega]
                    rw [e1, e2]
                    refine ⟨rfl, _, _, rfl, atM_sh hM ⟨?_, ?_, by omega, by omega, by omega, fun j hj => hz j (by omega)⟩ (fun x h1 h2 => ?_) hJ (fun j hj => ⟨?_, ?_⟩) (fun j k hj hk => hO _ (by omega)), fun x hx => ⟨?_, hJ x (by omega)⟩⟩
                    · rw [hIe, am_up_row _ _ _ _ (by decide), am_up_eq]
                    · rw [hIe, am_up_eq]; first | rfl | exact congrArg iZ (by omega)
                    · rw [hIe, am_up_row _ _ _ _ h2, am_up_row _ _ _ _ h1]
                    · rw [hIe, am_up_row _ _ _ _ (by decide), am_up_ne _ _ _ _ (Or.inr hj)]
                    · rw [hIe, am_up_ne _ _ _ _ (Or.inr hj), am_up_row _ _ _ _ (by decide)]
                    · rw [hIe, am_up_row _ _ _ _ (by omega), am_up_row _ _ _ _ (by omega)]
                  · refine am_aload_n (q := 72) C dX11_sheet_71 rfl rfl ?_
                    refine am_getR (q := 75) C fb_X11_83 dX11_sheet_72 rfl rfl kk_191 (show 191 < 215 by decide) kr_191_47 ?_
                    refine am_bipush (q := 77) (v := iZ 60) C dX11_sheet_75 rfl rfl ?_
                    refine am_iload_n (q := 78) C dX11_sheet_77 rfl rfl ?_
                    refine am_imulZ (q := 79) C dX11_sheet_78 rfl ?_
                    refine am_iload (q := 81) C dX11_sheet_79 rfl rfl ?_
                    refine am_iaddZ (q := 82) C dX11_sheet_81 rfl ?_
                    refine am_lconst (q := 83) (v := lN 0) C dX11_sheet_82 rfl rfl ?_
                    refine am_lastoreZ (q := 84) (60 * i + q) C dX11_sheet_83 rfl kk_214 (show 214 < 215 by decide) (by omega) (by omega) (by decide) ?_
                    refine am_iincZ (q := 87) (L' := [some (.ref 191), some (.int (iZ (i : Int))), some (.int (iZ s)), some (.int (iZ n)), some (.int (iZ ((q + 1 : Nat) : Int)))]) C dX11_sheet_84 rfl rfl (by omega) (by decide) rfl rfl ?_
                    refine am_goto (q := 64) C dX11_sheet_87 (by decide) ?_
                    refine ih (q + 1) _ _ (by omega) hIe (fun x hx => by rw [am_up_row _ _ _ _ hx]; exact hJ x hx) (fun j hj => ?_) (fun j hj => ?_) (by omega)
                    · by_cases e : j = q
                      · subst e; exact am_up_eq _ _ _ _
                      · rw [am_up_ne _ _ _ _ (Or.inr (by omega))]; exact hz j (by omega)
                    · rw [am_up_ne _ _ _ _ (Or.inr (by omega))]; exact hO j hj
              refine am_iconst (q := 62) (v := iZ 0) C dX11_sheet_61 rfl rfl ?_
              refine am_istore (q := 64) (L' := [some (.ref 191), some (.int (iZ (i : Int))), some (.int (iZ s)), some (.int (iZ n)), some (.int (iZ 0))]) C dX11_sheet_62 rfl (by decide) rfl rfl ?_
              exact lp 61 0 _ J (by omega) rfl (fun x _ => rfl) (fun j hj => absurd hj (Nat.not_lt_zero _)) (fun j _ => rfl) (by omega)
          · refine am_bipush (q := 38) (v := iZ (-14)) C dX11_sheet_36 rfl rfl ?_
            refine am_iret C T dX11_sheet_38 rfl (Nat.le_refl _) (Nat.le_refl _) ⟨_, rfl, ?_⟩
            have e1 : sheetA p s n = (-14) := by
              unfold sheetA
              try simp only [Int.toNat_natCast]
              first | (rw [if_neg (by omega)]; done) | (rw [if_pos (by omega), if_pos (by omega)]; done) | (rw [if_pos (by omega), if_neg (by omega), if_pos (by omega)]; done) | (rw [if_pos (by omega), if_neg (by omega), if_neg (by omega), if_pos (by omega)]; done) | (rw [if_pos (by omega), if_neg (by omega), if_neg (by omega), if_neg (by omega)]; done)
            have e2 : sheetT σ p s n = σ := by
              unfold sheetT
              try simp only [Int.toNat_natCast]
              first | (rw [if_neg (by omega)]; done) | (rw [if_pos (by omega), if_pos (by omega)]; done) | (rw [if_pos (by omega), if_neg (by omega), if_pos (by omega)]; done) | (rw [if_pos (by omega), if_neg (by omega), if_neg (by omega), if_pos (by omega)]; done) | (rw [if_pos (by omega), if_neg (by omega), if_neg (by omega), if_neg (by omega)]; done)
            rw [e1, e2]
            exact ⟨rfl, _, _, rfl, hM, frM_refl⟩
      · refine am_iload_n (q := 21) C dX11_sheet_20 rfl rfl ?_
        refine am_bipush (q := 23) (v := iZ 60) C dX11_sheet_21 rfl rfl ?_
        refine am_icmpZ_le (q := 26) (tgt := 28) C dX11_sheet_23 (by decide) rfl hn ⟨by omega, by omega⟩ (fun c6 => ?_) (fun c6 => ?_)
        · refine am_iload_n (q := 29) C dX11_sheet_28 rfl rfl ?_
          refine am_ifZ_lt (q := 32) (tgt := 39) C dX11_sheet_29 (by decide) rfl hs (fun c7 => ?_) (fun c7 => ?_)
          · obtain ⟨i, rfl⟩ : ∃ q : Nat, p = q := ⟨p.toNat, by omega⟩
            have hi : i < 4 := by omega
            obtain ⟨a1, a2, a3, a4, a5, a6⟩ := hM.2.2.2.2.2.2.2 i hi
            refine am_aload_n (q := 40) C dX11_sheet_39 rfl rfl ?_
            refine am_getR (q := 43) C fb_X11_77 dX11_sheet_40 rfl rfl kk_191 (show 191 < 215 by decide) kr_191_45 ?_
            refine am_iload_n (q := 44) C dX11_sheet_43 rfl rfl ?_
            refine am_iload_n (q := 45) C dX11_sheet_44 rfl rfl ?_
            refine am_iastoreZ (q := 46) i C dX11_sheet_45 rfl kk_212 (show 212 < 215 by decide) rfl (by omega) (by decide) ?_
            refine am_aload_n (q := 47) C dX11_sheet_46 rfl rfl ?_
            refine am_getR (q := 50) C fb_X11_80 dX11_sheet_47 rfl rfl kk_191 (show 191 < 215 by decide) kr_191_46 ?_
            refine am_iload_n (q := 51) C dX11_sheet_50 rfl rfl ?_
            refine am_iload_n (q := 52) C dX11_sheet_51 rfl rfl ?_
            refine am_ifZ_ge (q := 55) (tgt := 59) C dX11_sheet_52 (by decide) rfl hs (fun g1 => ?_) (fun g1 => ?_)
            · refine am_iload_n (q := 60) C dX11_sheet_59 rfl rfl ?_
              refine am_iastoreZ (q := 61) i C dX11_sheet_60 rfl kk_213 (show 213 < 215 by decide) rfl (by omega) (by decide) ?_
              have lp : ∀ (fuel : Nat) (q : Nat) (I1 : Nat → Nat → Int32) (J1 : Nat → Nat → Int64), (q ≤ 60) → (I1 = (am_up (am_up I 212 i (iZ s)) 213 i (iZ n))) → (∀ x, x ≠ 214 → J1 x = J x) → (∀ j, j < q → J1 214 (60 * i + j) = 0) → (∀ j, j < 60 * i ∨ 60 * i + 60 ≤ j → J1 214 j = J 214 j) → (60 - q) < fuel → am_A G mX11_sheet X (am_rm 3 0 0) 64 [some (.ref 191), some (.int (iZ (i : Int))), some (.int (iZ s)), some (.int (iZ n)), some (.int (iZ (q : Int)))] [] (215, kK, kR, I1, J1) 0 0 := by
                intro fuel
                induction fuel with
                | zero => intro q I1 J1 hq hIe hJ hz hO hf; exact absurd hf (Nat.not_lt_zero _)
                | succ fuel ih =>
                  intro q I1 J1 hq hIe hJ hz hO hf
                  refine am_iload (q := 66) C dX11_sheet_64 rfl rfl ?_
                  refine am_bipush (q := 68) (v := iZ 60) C dX11_sheet_66 rfl rfl ?_
                  refine am_icmpZ_ge (q := 71) (tgt := 90) C dX11_sheet_68 (by decide) rfl ⟨by omega, by omega⟩ ⟨by omega, by omega⟩ (fun e1 => ?_) (fun e1 => ?_)
                  · refine am_iconst (q := 91) (v := iZ 1) C dX11_sheet_90 rfl rfl ?_
                    refine am_iret C T dX11_sheet_91 rfl (Nat.le_refl _) (Nat.le_refl _) ⟨_, rfl, ?_⟩
                    have e1 : sheetA (i : Int) s n = 1 := by
                      unfold sheetA
                      try simp only [Int.toNat_natCast]
                      first | (rw [if_neg (by omega)]; done) | (rw [if_pos (by omega), if_pos (by omega)]; done) | (rw [if_pos (by omega), if_neg (by omega), if_pos (by omega)]; done) | (rw [if_pos (by omega), if_neg (by omega), if_neg (by omega), if_pos (by omega)]; done) | (rw [if_pos (by omega), if_neg (by omega), if_neg (by omega), if_neg (by omega)]; done)
                    have e2 : sheetT σ (i : Int) s n = shS σ i s (n.toNat) (fun _ => 0) := by
                      unfold sheetT
                      try simp only [Int.toNat_natCast]
                      rw [if_pos (by omega), if_neg (by omega), if_neg (by omega), if_neg (by omega)]
                    rw [e1, e2]
                    refine ⟨rfl, _, _, rfl, atM_sh hM ⟨?_, ?_, by omega, by omega, by omega, fun j hj => hz j (by omega)⟩ (fun x h1 h2 => ?_) hJ (fun j hj => ⟨?_, ?_⟩) (fun j k hj hk => hO _ (by omega)), fun x hx => ⟨?_, hJ x (by omega)⟩⟩
                    · rw [hIe, am_up_row _ _ _ _ (by decide), am_up_eq]
                    · rw [hIe, am_up_eq]; first | rfl | exact congrArg iZ (by omega)
                    · rw [hIe, am_up_row _ _ _ _ h2, am_up_row _ _ _ _ h1]
                    · rw [hIe, am_up_row _ _ _ _ (by decide), am_up_ne _ _ _ _ (Or.inr hj)]
                    · rw [hIe, am_up_ne _ _ _ _ (Or.inr hj), am_up_row _ _ _ _ (by decide)]
                    · rw [hIe, am_up_row _ _ _ _ (by omega), am_up_row _ _ _ _ (by omega)]
                  · refine am_aload_n (q := 72) C dX11_sheet_71 rfl rfl ?_
                    refine am_getR (q := 75) C fb_X11_83 dX11_sheet_72 rfl rfl kk_191 (show 191 < 215 by decide) kr_191_47 ?_
                    refine am_bipush (q := 77) (v := iZ 60) C dX11_sheet_75 rfl rfl ?_
                    refine am_iload_n (q := 78) C dX11_sheet_77 rfl rfl ?_
                    refine am_imulZ (q := 79) C dX11_sheet_78 rfl ?_
                    refine am_iload (q := 81) C dX11_sheet_79 rfl rfl ?_
                    refine am_iaddZ (q := 82) C dX11_sheet_81 rfl ?_
                    refine am_lconst (q := 83) (v := lN 0) C dX11_sheet_82 rfl rfl ?_
                    refine am_lastoreZ (q := 84) (60 * i + q) C dX11_sheet_83 rfl kk_214 (show 214 < 215 by decide) (by omega) (by omega) (by decide) ?_
                    refine am_iincZ (q := 87) (L' := [some (.ref 191), some (.int (iZ (i : Int))), some (.int (iZ s)), some (.int (iZ n)), some (.int (iZ ((q + 1 : Nat) : Int)))]) C dX11_sheet_84 rfl rfl (by omega) (by decide) rfl rfl ?_
                    refine am_goto (q := 64) C dX11_sheet_87 (by decide) ?_
                    refine ih (q + 1) _ _ (by omega) hIe (fun x hx => by rw [am_up_row _ _ _ _ hx]; exact hJ x hx) (fun j hj => ?_) (fun j hj => ?_) (by omega)
                    · by_cases e : j = q
                      · subst e; exact am_up_eq _ _ _ _
                      · rw [am_up_ne _ _ _ _ (Or.inr (by omega))]; exact hz j (by omega)
                    · rw [am_up_ne _ _ _ _ (Or.inr (by omega))]; exact hO j hj
              refine am_iconst (q := 62) (v := iZ 0) C dX11_sheet_61 rfl rfl ?_
              refine am_istore (q := 64) (L' := [some (.ref 191), some (.int (iZ (i : Int))), some (.int (iZ s)), some (.int (iZ n)), some (.int (iZ 0))]) C dX11_sheet_62 rfl (by decide) rfl rfl ?_
              exact lp 61 0 _ J (by omega) rfl (fun x _ => rfl) (fun j hj => absurd hj (Nat.not_lt_zero _)) (fun j _ => rfl) (by omega)
            · refine am_iconst (q := 56) (v := iZ 0) C dX11_sheet_55 rfl rfl ?_
              refine am_goto (q := 60) C dX11_sheet_56 (by decide) ?_
              refine am_iastoreZ (q := 61) i C dX11_sheet_60 rfl kk_213 (show 213 < 215 by decide) rfl (by omega) (by decide) ?_
              have lp : ∀ (fuel : Nat) (q : Nat) (I1 : Nat → Nat → Int32) (J1 : Nat → Nat → Int64), (q ≤ 60) → (I1 = (am_up (am_up I 212 i (iZ s)) 213 i (iZ 0))) → (∀ x, x ≠ 214 → J1 x = J x) → (∀ j, j < q → J1 214 (60 * i + j) = 0) → (∀ j, j < 60 * i ∨ 60 * i + 60 ≤ j → J1 214 j = J 214 j) → (60 - q) < fuel → am_A G mX11_sheet X (am_rm 3 0 0) 64 [some (.ref 191), some (.int (iZ (i : Int))), some (.int (iZ s)), some (.int (iZ n)), some (.int (iZ (q : Int)))] [] (215, kK, kR, I1, J1) 0 0 := by
                intro fuel
                induction fuel with
                | zero => intro q I1 J1 hq hIe hJ hz hO hf; exact absurd hf (Nat.not_lt_zero _)
                | succ fuel ih =>
                  intro q I1 J1 hq hIe hJ hz hO hf
                  refine am_iload (q := 66) C dX11_sheet_64 rfl rfl ?_
                  refine am_bipush (q := 68) (v := iZ 60) C dX11_sheet_66 rfl rfl ?_
                  refine am_icmpZ_ge (q := 71) (tgt := 90) C dX11_sheet_68 (by decide) rfl ⟨by omega, by omega⟩ ⟨by omega, by omega⟩ (fun e1 => ?_) (fun e1 => ?_)
                  · refine am_iconst (q := 91) (v := iZ 1) C dX11_sheet_90 rfl rfl ?_
                    refine am_iret C T dX11_sheet_91 rfl (Nat.le_refl _) (Nat.le_refl _) ⟨_, rfl, ?_⟩
                    have e1 : sheetA (i : Int) s n = 1 := by
                      unfold sheetA
                      try simp only [Int.toNat_natCast]
                      first | (rw [if_neg (by omega)]; done) | (rw [if_pos (by omega), if_pos (by omega)]; done) | (rw [if_pos (by omega), if_neg (by omega), if_pos (by omega)]; done) | (rw [if_pos (by omega), if_neg (by omega), if_neg (by omega), if_pos (by omega)]; done) | (rw [if_pos (by omega), if_neg (by omega), if_neg (by omega), if_neg (by omega)]; done)
                    have e2 : sheetT σ (i : Int) s n = shS σ i s (0) (fun _ => 0) := by
                      unfold sheetT
                      try simp only [Int.toNat_natCast]
                      rw [if_pos (by omega), if_pos (by omega), show s = -1 by omega]
                    rw [e1, e2]
                    refine ⟨rfl, _, _, rfl, atM_sh hM ⟨?_, ?_, by omega, by omega, by omega, fun j hj => hz j (by omega)⟩ (fun x h1 h2 => ?_) hJ (fun j hj => ⟨?_, ?_⟩) (fun j k hj hk => hO _ (by omega)), fun x hx => ⟨?_, hJ x (by omega)⟩⟩
                    · rw [hIe, am_up_row _ _ _ _ (by decide), am_up_eq]
                    · rw [hIe, am_up_eq]; first | rfl | exact congrArg iZ (by omega)
                    · rw [hIe, am_up_row _ _ _ _ h2, am_up_row _ _ _ _ h1]
                    · rw [hIe, am_up_row _ _ _ _ (by decide), am_up_ne _ _ _ _ (Or.inr hj)]
                    · rw [hIe, am_up_ne _ _ _ _ (Or.inr hj), am_up_row _ _ _ _ (by decide)]
                    · rw [hIe, am_up_row _ _ _ _ (by omega), am_up_row _ _ _ _ (by omega)]
                  · refine am_aload_n (q := 72) C dX11_sheet_71 rfl rfl ?_
                    refine am_getR (q := 75) C fb_X11_83 dX11_sheet_72 rfl rfl kk_191 (show 191 < 215 by decide) kr_191_47 ?_
                    refine am_bipush (q := 77) (v := iZ 60) C dX11_sheet_75 rfl rfl ?_
                    refine am_iload_n (q := 78) C dX11_sheet_77 rfl rfl ?_
                    refine am_imulZ (q := 79) C dX11_sheet_78 rfl ?_
                    refine am_iload (q := 81) C dX11_sheet_79 rfl rfl ?_
                    refine am_iaddZ (q := 82) C dX11_sheet_81 rfl ?_
                    refine am_lconst (q := 83) (v := lN 0) C dX11_sheet_82 rfl rfl ?_
                    refine am_lastoreZ (q := 84) (60 * i + q) C dX11_sheet_83 rfl kk_214 (show 214 < 215 by decide) (by omega) (by omega) (by decide) ?_
                    refine am_iincZ (q := 87) (L' := [some (.ref 191), some (.int (iZ (i : Int))), some (.int (iZ s)), some (.int (iZ n)), some (.int (iZ ((q + 1 : Nat) : Int)))]) C dX11_sheet_84 rfl rfl (by omega) (by decide) rfl rfl ?_
                    refine am_goto (q := 64) C dX11_sheet_87 (by decide) ?_
                    refine ih (q + 1) _ _ (by omega) hIe (fun x hx => by rw [am_up_row _ _ _ _ hx]; exact hJ x hx) (fun j hj => ?_) (fun j hj => ?_) (by omega)
                    · by_cases e : j = q
                      · subst e; exact am_up_eq _ _ _ _
                      · rw [am_up_ne _ _ _ _ (Or.inr (by omega))]; exact hz j (by omega)
                    · rw [am_up_ne _ _ _ _ (Or.inr (by omega))]; exact hO j hj
              refine am_iconst (q := 62) (v := iZ 0) C dX11_sheet_61 rfl rfl ?_
              refine am_istore (q := 64) (L' := [some (.ref 191), some (.int (iZ (i : Int))), some (.int (iZ s)), some (.int (iZ n)), some (.int (iZ 0))]) C dX11_sheet_62 rfl (by decide) rfl rfl ?_
              exact lp 61 0 _ J (by omega) rfl (fun x _ => rfl) (fun j hj => absurd hj (Nat.not_lt_zero _)) (fun j _ => rfl) (by omega)
          · refine am_iload_n (q := 33) C dX11_sheet_32 rfl rfl ?_
            refine am_ifZ_ge (q := 36) (tgt := 39) C dX11_sheet_33 (by decide) rfl hn (fun c8 => ?_) (fun c8 => ?_)
            · obtain ⟨i, rfl⟩ : ∃ q : Nat, p = q := ⟨p.toNat, by omega⟩
              have hi : i < 4 := by omega
              obtain ⟨a1, a2, a3, a4, a5, a6⟩ := hM.2.2.2.2.2.2.2 i hi
              refine am_aload_n (q := 40) C dX11_sheet_39 rfl rfl ?_
              refine am_getR (q := 43) C fb_X11_77 dX11_sheet_40 rfl rfl kk_191 (show 191 < 215 by decide) kr_191_45 ?_
              refine am_iload_n (q := 44) C dX11_sheet_43 rfl rfl ?_
              refine am_iload_n (q := 45) C dX11_sheet_44 rfl rfl ?_
              refine am_iastoreZ (q := 46) i C dX11_sheet_45 rfl kk_212 (show 212 < 215 by decide) rfl (by omega) (by decide) ?_
              refine am_aload_n (q := 47) C dX11_sheet_46 rfl rfl ?_
              refine am_getR (q := 50) C fb_X11_80 dX11_sheet_47 rfl rfl kk_191 (show 191 < 215 by decide) kr_191_46 ?_
              refine am_iload_n (q := 51) C dX11_sheet_50 rfl rfl ?_
              refine am_iload_n (q := 52) C dX11_sheet_51 rfl rfl ?_
              refine am_ifZ_ge (q := 55) (tgt := 59) C dX11_sheet_52 (by decide) rfl hs (fun g1 => ?_) (fun g1 => ?_)
              · refine am_iload_n (q := 60) C dX11_sheet_59 rfl rfl ?_
                refine am_iastoreZ (q := 61) i C dX11_sheet_60 rfl kk_213 (show 213 < 215 by decide) rfl (by omega) (by decide) ?_
                have lp : ∀ (fuel : Nat) (q : Nat) (I1 : Nat → Nat → Int32) (J1 : Nat → Nat → Int64), (q ≤ 60) → (I1 = (am_up (am_up I 212 i (iZ s)) 213 i (iZ n))) → (∀ x, x ≠ 214 → J1 x = J x) → (∀ j, j < q → J1 214 (60 * i + j) = 0) → (∀ j, j < 60 * i ∨ 60 * i + 60 ≤ j → J1 214 j = J 214 j) → (60 - q) < fuel → am_A G mX11_sheet X (am_rm 3 0 0) 64 [some (.ref 191), some (.int (iZ (i : Int))), some (.int (iZ s)), some (.int (iZ n)), some (.int (iZ (q : Int)))] [] (215, kK, kR, I1, J1) 0 0 := by
                  intro fuel
                  induction fuel with
                  | zero => intro q I1 J1 hq hIe hJ hz hO hf; exact absurd hf (Nat.not_lt_zero _)
                  | succ fuel ih =>
                    intro q I1 J1 hq hIe hJ hz hO hf
                    refine am_iload (q := 66) C dX11_sheet_64 rfl rfl ?_
                    refine am_bipush (q := 68) (v := iZ 60) C dX11_sheet_66 rfl rfl ?_
                    refine am_icmpZ_ge (q := 71) (tgt := 90) C dX11_sheet_68 (by decide) rfl ⟨by omega, by omega⟩ ⟨by omega, by omega⟩ (fun e1 => ?_) (fun e1 => ?_)
                    · refine am_iconst (q := 91) (v := iZ 1) C dX11_sheet_90 rfl rfl ?_
                      refine am_iret C T dX11_sheet_91 rfl (Nat.le_refl _) (Nat.le_refl _) ⟨_, rfl, ?_⟩
                      have e1 : sheetA (i : Int) s n = 1 := by
                        unfold sheetA
                        try simp only [Int.toNat_natCast]
                        first | (rw [if_neg (by omega)]; done) | (rw [if_pos (by omega), if_pos (by omega)]; done) | (rw [if_pos (by omega), if_neg (by omega), if_pos (by omega)]; done) | (rw [if_pos (by omega), if_neg (by omega), if_neg (by omega), if_pos (by omega)]; done) | (rw [if_pos (by omega), if_neg (by omega), if_neg (by omega), if_neg (by omega)]; done)
                      have e2 : sheetT σ (i : Int) s n = shS σ i s (n.toNat) (fun _ => 0) := by
                        unfold sheetT
                        try simp only [Int.toNat_natCast]
                        rw [if_pos (by omega), if_neg (by omega), if_neg (by omega), if_neg (by omega)]
                      rw [e1, e2]
                      refine ⟨rfl, _, _, rfl, atM_sh hM ⟨?_, ?_, by omega, by omega, by omega, fun j hj => hz j (by omega)⟩ (fun x h1 h2 => ?_) hJ (fun j hj => ⟨?_, ?_⟩) (fun j k hj hk => hO _ (by omega)), fun x hx => ⟨?_, hJ x (by omega)⟩⟩
                      · rw [hIe, am_up_row _ _ _ _ (by decide), am_up_eq]
                      · rw [hIe, am_up_eq]; first | rfl | exact congrArg iZ (by omega)
                      · rw [hIe, am_up_row _ _ _ _ h2, am_up_row _ _ _ _ h1]
                      · rw [hIe, am_up_row _ _ _ _ (by decide), am_up_ne _ _ _ _ (Or.inr hj)]
                      · rw [hIe, am_up_ne _ _ _ _ (Or.inr hj), am_up_row _ _ _ _ (by decide)]
                      · rw [hIe, am_up_row _ _ _ _ (by omega), am_up_row _ _ _ _ (by omega)]
                    · refine am_aload_n (q := 72) C dX11_sheet_71 rfl rfl ?_
                      refine am_getR (q := 75) C fb_X11_83 dX11_sheet_72 rfl rfl kk_191 (show 191 < 215 by decide) kr_191_47 ?_
                      refine am_bipush (q := 77) (v := iZ 60) C dX11_sheet_75 rfl rfl ?_
                      refine am_iload_n (q := 78) C dX11_sheet_77 rfl rfl ?_
                      refine am_imulZ (q := 79) C dX11_sheet_78 rfl ?_
                      refine am_iload (q := 81) C dX11_sheet_79 rfl rfl ?_
                      refine am_iaddZ (q := 82) C dX11_sheet_81 rfl ?_
                      refine am_lconst (q := 83) (v := lN 0) C dX11_sheet_82 rfl rfl ?_
                      refine am_lastoreZ (q := 84) (60 * i + q) C dX11_sheet_83 rfl kk_214 (show 214 < 215 by decide) (by omega) (by omega) (by decide) ?_
                      refine am_iincZ (q := 87) (L' := [some (.ref 191), some (.int (iZ (i : Int))), some (.int (iZ s)), some (.int (iZ n)), some (.int (iZ ((q + 1 : Nat) : Int)))]) C dX11_sheet_84 rfl rfl (by omega) (by decide) rfl rfl ?_
                      refine am_goto (q := 64) C dX11_sheet_87 (by decide) ?_
                      refine ih (q + 1) _ _ (by omega) hIe (fun x hx => by rw [am_up_row _ _ _ _ hx]; exact hJ x hx) (fun j hj => ?_) (fun j hj => ?_) (by omega)
                      · by_cases e : j = q
                        · subst e; exact am_up_eq _ _ _ _
                        · rw [am_up_ne _ _ _ _ (Or.inr (by omega))]; exact hz j (by omega)
                      · rw [am_up_ne _ _ _ _ (Or.inr (by omega))]; exact hO j hj
                refine am_iconst (q := 62) (v := iZ 0) C dX11_sheet_61 rfl rfl ?_
                refine am_istore (q := 64) (L' := [some (.ref 191), some (.int (iZ (i : Int))), some (.int (iZ s)), some (.int (iZ n)), some (.int (iZ 0))]) C dX11_sheet_62 rfl (by decide) rfl rfl ?_
                exact lp 61 0 _ J (by omega) rfl (fun x _ => rfl) (fun j hj => absurd hj (Nat.not_lt_zero _)) (fun j _ => rfl) (by omega)
              · refine am_iconst (q := 56) (v := iZ 0) C dX11_sheet_55 rfl rfl ?_
                refine am_goto (q := 60) C dX11_sheet_56 (by decide) ?_
                refine am_iastoreZ (q := 61) i C dX11_sheet_60 rfl kk_213 (show 213 < 215 by decide) rfl (by omega) (by decide) ?_
                have lp : ∀ (fuel : Nat) (q : Nat) (I1 : Nat → Nat → Int32) (J1 : Nat → Nat → Int64), (q ≤ 60) → (I1 = (am_up (am_up I 212 i (iZ s)) 213 i (iZ 0))) → (∀ x, x ≠ 214 → J1 x = J x) → (∀ j, j < q → J1 214 (60 * i + j) = 0) → (∀ j, j < 60 * i ∨ 60 * i + 60 ≤ j → J1 214 j = J 214 j) → (60 - q) < fuel → am_A G mX11_sheet X (am_rm 3 0 0) 64 [some (.ref 191), some (.int (iZ (i : Int))), some (.int (iZ s)), some (.int (iZ n)), some (.int (iZ (q : Int)))] [] (215, kK, kR, I1, J1) 0 0 := by
                  intro fuel
                  induction fuel with
                  | zero => intro q I1 J1 hq hIe hJ hz hO hf; exact absurd hf (Nat.not_lt_zero _)
                  | succ fuel ih =>
                    intro q I1 J1 hq hIe hJ hz hO hf
                    refine am_iload (q := 66) C dX11_sheet_64 rfl rfl ?_
                    refine am_bipush (q := 68) (v := iZ 60) C dX11_sheet_66 rfl rfl ?_
                    refine am_icmpZ_ge (q := 71) (tgt := 90) C dX11_sheet_68 (by decide) rfl ⟨by omega, by omega⟩ ⟨by omega, by omega⟩ (fun e1 => ?_) (fun e1 => ?_)
                    · refine am_iconst (q := 91) (v := iZ 1) C dX11_sheet_90 rfl rfl ?_
                      refine am_iret C T dX11_sheet_91 rfl (Nat.le_refl _) (Nat.le_refl _) ⟨_, rfl, ?_⟩
                      have e1 : sheetA (i : Int) s n = 1 := by
                        unfold sheetA
                        try simp only [Int.toNat_natCast]
                        first | (rw [if_neg (by omega)]; done) | (rw [if_pos (by omega), if_pos (by omega)]; done) | (rw [if_pos (by omega), if_neg (by omega), if_pos (by omega)]; done) | (rw [if_pos (by omega), if_neg (by omega), if_neg (by omega), if_pos (by omega)]; done) | (rw [if_pos (by omega), if_neg (by omega), if_neg (by omega), if_neg (by omega)]; done)
                      have e2 : sheetT σ (i : Int) s n = shS σ i s (0) (fun _ => 0) := by
                        unfold sheetT
                        try simp only [Int.toNat_natCast]
                        rw [if_pos (by omega), if_pos (by omega), show s = -1 by omega]
                      rw [e1, e2]
                      refine ⟨rfl, _, _, rfl, atM_sh hM ⟨?_, ?_, by omega, by omega, by omega, fun j hj => hz j (by omega)⟩ (fun x h1 h2 => ?_) hJ (fun j hj => ⟨?_, ?_⟩) (fun j k hj hk => hO _ (by omega)), fun x hx => ⟨?_, hJ x (by omega)⟩⟩
                      · rw [hIe, am_up_row _ _ _ _ (by decide), am_up_eq]
                      · rw [hIe, am_up_eq]; first | rfl | exact congrArg iZ (by omega)
                      · rw [hIe, am_up_row _ _ _ _ h2, am_up_row _ _ _ _ h1]
                      · rw [hIe, am_up_row _ _ _ _ (by decide), am_up_ne _ _ _ _ (Or.inr hj)]
                      · rw [hIe, am_up_ne _ _ _ _ (Or.inr hj), am_up_row _ _ _ _ (by decide)]
                      · rw [hIe, am_up_row _ _ _ _ (by omega), am_up_row _ _ _ _ (by omega)]
                    · refine am_aload_n (q := 72) C dX11_sheet_71 rfl rfl ?_
                      refine am_getR (q := 75) C fb_X11_83 dX11_sheet_72 rfl rfl kk_191 (show 191 < 215 by decide) kr_191_47 ?_
                      refine am_bipush (q := 77) (v := iZ 60) C dX11_sheet_75 rfl rfl ?_
                      refine am_iload_n (q := 78) C dX11_sheet_77 rfl rfl ?_
                      refine am_imulZ (q := 79) C dX11_sheet_78 rfl ?_
                      refine am_iload (q := 81) C dX11_sheet_79 rfl rfl ?_
                      refine am_iaddZ (q := 82) C dX11_sheet_81 rfl ?_
                      refine am_lconst (q := 83) (v := lN 0) C dX11_sheet_82 rfl rfl ?_
                      refine am_lastoreZ (q := 84) (60 * i + q) C dX11_sheet_83 rfl kk_214 (show 214 < 215 by decide) (by omega) (by omega) (by decide) ?_
                      refine am_iincZ (q := 87) (L' := [some (.ref 191), some (.int (iZ (i : Int))), some (.int (iZ s)), some (.int (iZ n)), some (.int (iZ ((q + 1 : Nat) : Int)))]) C dX11_sheet_84 rfl rfl (by omega) (by decide) rfl rfl ?_
                      refine am_goto (q := 64) C dX11_sheet_87 (by decide) ?_
                      refine ih (q + 1) _ _ (by omega) hIe (fun x hx => by rw [am_up_row _ _ _ _ hx]; exact hJ x hx) (fun j hj => ?_) (fun j hj => ?_) (by omega)
                      · by_cases e : j = q
                        · subst e; exact am_up_eq _ _ _ _
                        · rw [am_up_ne _ _ _ _ (Or.inr (by omega))]; exact hz j (by omega)
                      · rw [am_up_ne _ _ _ _ (Or.inr (by omega))]; exact hO j hj
                refine am_iconst (q := 62) (v := iZ 0) C dX11_sheet_61 rfl rfl ?_
                refine am_istore (q := 64) (L' := [some (.ref 191), some (.int (iZ (i : Int))), some (.int (iZ s)), some (.int (iZ n)), some (.int (iZ 0))]) C dX11_sheet_62 rfl (by decide) rfl rfl ?_
                exact lp 61 0 _ J (by omega) rfl (fun x _ => rfl) (fun j hj => absurd hj (Nat.not_lt_zero _)) (fun j _ => rfl) (by omega)
            · refine am_bipush (q := 38) (v := iZ (-14)) C dX11_sheet_36 rfl rfl ?_
              refine am_iret C T dX11_sheet_38 rfl (Nat.le_refl _) (Nat.le_refl _) ⟨_, rfl, ?_⟩
              have e1 : sheetA p s n = (-14) := by
                unfold sheetA
                try simp only [Int.toNat_natCast]
                first | (rw [if_neg (by omega)]; done) | (rw [if_pos (by omega), if_pos (by omega)]; done) | (rw [if_pos (by omega), if_neg (by omega), if_pos (by omega)]; done) | (rw [if_pos (by omega), if_neg (by omega), if_neg (by omega), if_pos (by omega)]; done) | (rw [if_pos (by omega), if_neg (by omega), if_neg (by omega), if_neg (by omega)]; done)
              have e2 : sheetT σ p s n = σ := by
                unfold sheetT
                try simp only [Int.toNat_natCast]
                first | (rw [if_neg (by omega)]; done) | (rw [if_pos (by omega), if_pos (by omega)]; done) | (rw [if_pos (by omega), if_neg (by omega), if_pos (by omega)]; done) | (rw [if_pos (by omega), if_neg (by omega), if_neg (by omega), if_pos (by omega)]; done) | (rw [if_pos (by omega), if_neg (by omega), if_neg (by omega), if_neg (by omega)]; done)
              rw [e1, e2]
              exact ⟨rfl, _, _, rfl, hM, frM_refl⟩
        · refine am_iconst (q := 27) (v := iZ (-1)) C dX11_sheet_26 rfl rfl ?_
          refine am_iret C T dX11_sheet_27 rfl (Nat.le_refl _) (Nat.le_refl _) ⟨_, rfl, ?_⟩
          have e1 : sheetA p s n = (-1) := by
            unfold sheetA
            try simp only [Int.toNat_natCast]
            first | (rw [if_neg (by omega)]; done) | (rw [if_pos (by omega), if_pos (by omega)]; done) | (rw [if_pos (by omega), if_neg (by omega), if_pos (by omega)]; done) | (rw [if_pos (by omega), if_neg (by omega), if_neg (by omega), if_pos (by omega)]; done) | (rw [if_pos (by omega), if_neg (by omega), if_neg (by omega), if_neg (by omega)]; done)
          have e2 : sheetT σ p s n = σ := by
            unfold sheetT
            try simp only [Int.toNat_natCast]
            first | (rw [if_neg (by omega)]; done) | (rw [if_pos (by omega), if_pos (by omega)]; done) | (rw [if_pos (by omega), if_neg (by omega), if_pos (by omega)]; done) | (rw [if_pos (by omega), if_neg (by omega), if_neg (by omega), if_pos (by omega)]; done) | (rw [if_pos (by omega), if_neg (by omega), if_neg (by omega), if_neg (by omega)]; done)
          rw [e1, e2]
          exact ⟨rfl, _, _, rfl, hM, frM_refl⟩
