variable {G : am_G} {I : Nat → Nat → Int32} {J : Nat → Nat → Int64}
def fz : List (Nat × Nat) → Nat → Nat → Nat
  | [], _, _ => 0
  | (c, d) :: l, a, b => if (c : Int) * (b : Int) - (d : Int) * (a : Int) = 0 then 0 else fz l a b + 1
theorem fz_eq : ∀ (l : List (Nat × Nat)) (a b p : Nat), p ≤ l.length → (∀ j, j < p → crs l j a b ≠ 0) → (p = l.length ∨ crs l p a b = 0) → fz l a b = p
  | [], a, b, p, h, _, _ => by
    have h9 : p = 0 := Nat.le_zero.mp h
    rw [h9]; rfl
  | (c, d) :: l, a, b, p, h, h1, h2 => by
    cases p with
    | zero =>
      rcases h2 with h2 | h2
      · simp at h2
      · have h3 : (c : Int) * (b : Int) - (d : Int) * (a : Int) = 0 := h2
        show (if _ then _ else _) = 0
        rw [if_pos h3]
    | succ p =>
      have h3 : ¬ (c : Int) * (b : Int) - (d : Int) * (a : Int) = 0 := h1 0 (by omega)
      show (if _ then _ else _) = p + 1
      rw [if_neg h3, fz_eq l a b p (by simpa using h) (fun j hj => h1 (j + 1) (by omega)) (h2.imp (fun e => by simpa using e) (fun e => e))]
/-- which ray (a, b) lies on; 0 if it lies on none -/
def fidx (l : List (Nat × Nat)) (a b : Nat) : Nat := if fz l a b < l.length then fz l a b else 0
theorem abs_nat (x : Int) : (if x < 0 then -x else x) = (x.natAbs : Int) := by split <;> omega
/-- the size of two parts' turn -/
def detN (t : PT) (p q : Nat) : Nat := ((pa t p : Int) * (pb t q : Int) - (pb t p : Int) * (pa t q : Int)).natAbs
theorem detN_le {t : PT} (h : okP t) {p q : Nat} (hp : p < pm t) (hq : q < pm t) : detN t p q ≤ 16 := by
  obtain ⟨a1, a2, -⟩ := h.2 p hp
  obtain ⟨b1, b2, -⟩ := h.2 q hq
  have e1 := pr44 a1 b2
  have e2 := pr44 a2 b1
  have f1 : (pa t p : Int) * (pb t q : Int) = ((pa t p * pb t q : Nat) : Int) := by simp
  have f2 : (pb t p : Int) * (pa t q : Int) = ((pb t p * pa t q : Nat) : Int) := by simp
  unfold detN
  rw [f1, f2]; omega
theorem detI_rg {t : PT} (h : okP t) {p q : Nat} (hp : p < pm t) (hq : q < pm t) : rg ((pa t p : Int) * (pb t q : Int) - (pb t p : Int) * (pa t q : Int)) := by
  have h1 := detN_le h hp hq
  unfold detN at h1
  exact ⟨by omega, by omega⟩
def perQ (t : PT) (p x : Nat) : Nat → Nat
  | 0 => x
  | q + 1 => lcm0 (perQ t p x q) (detN t p q)
def perP (t : PT) : Nat → Nat
  | 0 => 1
  | p + 1 => perQ t p (perP t p) p
theorem lcm0_ok {x d : Nat} (hx : 1 ≤ x) (hx2 : x ∣ 720720) (hd : d ≤ 16) : 1 ≤ lcm0 x d ∧ lcm0 x d ∣ 720720 := by
  unfold lcm0
  by_cases h : d = 0
  · rw [if_pos h]; exact ⟨hx, hx2⟩
  · rw [if_neg h]
    have h2 : ∀ d, d < 17 → d ≠ 0 → d ∣ 720720 := by decide
    exact ⟨Nat.lcm_pos (by omega) (by omega), Nat.lcm_dvd hx2 (h2 d (by omega) h)⟩
theorem perQ_ok {t : PT} (h : okP t) {p : Nat} (hp : p < pm t) {x : Nat} (hx : 1 ≤ x ∧ x ∣ 720720) : ∀ q, q ≤ p → 1 ≤ perQ t p x q ∧ perQ t p x q ∣ 720720
  | 0, _ => hx
  | q + 1, hq => by
    have ih := perQ_ok h hp hx q (by omega)
    exact lcm0_ok ih.1 ih.2 (detN_le h hp (by omega))
theorem perP_ok {t : PT} (h : okP t) : ∀ p, p ≤ pm t → 1 ≤ perP t p ∧ perP t p ∣ 720720
  | 0, _ => ⟨Nat.le_refl _, Nat.one_dvd _⟩
  | p + 1, hp => perQ_ok h (by omega) (perP_ok h p (by omega)) p (Nat.le_refl _)
theorem per_le {x : Nat} (h : 1 ≤ x ∧ x ∣ 720720) : x ≤ 720720 := Nat.le_of_dvd (by decide) h.2
set_option maxRecDepth 4000 in
theorem sp_X1_rayTowards {l : List (Nat × Nat)} (hF : atF I l) {a b : Nat} (ha : a ≤ 4) (hb : b ≤ 4) : am_S G mX1_rayTowards 3 0 0 [.ref 169, .int (iZ (a : Int)), .int (iZ (b : Int))] (215, kK, kR, I, J) (am_fi (iZ (fidx l a b : Int)) (215, kK, kR, I, J)) := by
  have f1 := hF.1
  have f2 := hF.2.1
  have f3 := hF.2.2
  refine am_spec (plainFor_of_name (by decide +kernel)) (Nat.le_of_ble_eq_true rfl) (L := [some (.ref 169), some (.int (iZ (a : Int))), some (.int (iZ (b : Int))), none]) rfl (fun X C T => ?_)
  have lp : ∀ (fuel : Nat) (r : Nat), (r ≤ l.length) → (∀ j, j < r → crs l j a b ≠ 0) → (l.length - r) < fuel → am_A G mX1_rayTowards X (am_rm 3 0 0) 2 [some (.ref 169), some (.int (iZ (a : Int))), some (.int (iZ (b : Int))), some (.int (iZ (r : Int)))] [] (215, kK, kR, I, J) 0 0 := by
    intro fuel
    induction fuel with
    | zero => intro r hr hj hf; exact absurd hf (Nat.not_lt_zero _)
    | succ fuel ih =>
      intro r hr hj hf
      refine am_iload_n (q := 3) C dX1_rayTowards_2 rfl rfl ?_
      refine am_bipush (q := 5) (v := iZ 6) C dX1_rayTowards_3 rfl rfl ?_
      refine am_icmpZ_ge (q := 8) (tgt := 44) C dX1_rayTowards_5 (by decide) rfl ⟨by omega, by omega⟩ ⟨by omega, by omega⟩ (fun h1 => ?_) (fun h1 => ?_)
      · refine am_iconst (q := 45) (v := iZ 0) C dX1_rayTowards_44 rfl rfl ?_
        refine am_iret C T dX1_rayTowards_45 rfl (Nat.le_refl _) (Nat.le_refl _) ⟨_, rfl, ?_⟩
        refine ⟨congrArg iZ ?_, rfl⟩
        unfold fidx
        rw [fz_eq l a b r (by omega) hj (Or.inl (by omega)), if_neg (by omega)]; rfl
      · refine am_aload_n (q := 9) C dX1_rayTowards_8 rfl rfl ?_
        refine am_iload_n (q := 10) C dX1_rayTowards_9 rfl rfl ?_
        refine am_callV (q := 13) (As := [.int (iZ (r : Int))]) (rest := []) C mb_X1_hasRay im_X1_hasRay se_X1_hasRay ml_X1_65 cb_1 kk_169 (show 169 < 215 by decide) dX1_rayTowards_10 rfl (sp_X1_hasRay hF (p := (r : Int)) ⟨by omega, by omega⟩) rfl rfl ⟨by decide, by decide⟩ ⟨Nat.le_refl _, Nat.le_refl _⟩ (Nat.le_of_ble_eq_true rfl) (am_rie ?_)
        refine am_ifB_eq (q := 16) (tgt := 44) C dX1_rayTowards_13 (by decide) rfl (fun h2 => ?_) (fun h2 => ?_)
        · refine am_iconst (q := 45) (v := iZ 0) C dX1_rayTowards_44 rfl rfl ?_
          refine am_iret C T dX1_rayTowards_45 rfl (Nat.le_refl _) (Nat.le_refl _) ⟨_, rfl, ?_⟩
          refine ⟨congrArg iZ ?_, rfl⟩
          unfold fidx
          rw [fz_eq l a b r (by omega) hj (Or.inl (by omega)), if_neg (by omega)]; rfl
        · refine am_aload_n (q := 17) C dX1_rayTowards_16 rfl rfl ?_
          refine am_getR (q := 20) C fb_X1_9 dX1_rayTowards_17 rfl rfl kk_169 (show 169 < 215 by decide) kr_169_0 ?_
          refine am_iload_n (q := 21) C dX1_rayTowards_20 rfl rfl ?_
          refine am_ialoadZ (q := 22) r C dX1_rayTowards_21 rfl kk_170 (show 170 < 215 by decide) rfl (by omega) (by decide) ?_
          refine am_intE (y := (iZ (ra l r : Int))) (f3 r (by omega)).1 ?_
          refine am_aload_n (q := 23) C dX1_rayTowards_22 rfl rfl ?_
          refine am_getR (q := 26) C fb_X1_15 dX1_rayTowards_23 rfl rfl kk_169 (show 169 < 215 by decide) kr_169_1 ?_
          refine am_iload_n (q := 27) C dX1_rayTowards_26 rfl rfl ?_
          refine am_ialoadZ (q := 28) r C dX1_rayTowards_27 rfl kk_171 (show 171 < 215 by decide) rfl (by omega) (by decide) ?_
          refine am_intE (y := (iZ (rb l r : Int))) (f3 r (by omega)).2.1 ?_
          refine am_iload_n (q := 29) C dX1_rayTowards_28 rfl rfl ?_
          refine am_iload_n (q := 30) C dX1_rayTowards_29 rfl rfl ?_
          refine am_callS (q := 33) (As := [.int (iZ (ra l r : Int)), .int (iZ (rb l r : Int)), .int (iZ (a : Int)), .int (iZ (b : Int))]) (rest := []) C mb_X1_turn st_X1_turn ml_X1_69 dX1_rayTowards_30 rfl (sp_X1_turn (ra l r : Int) (rb l r : Int) (a : Int) (b : Int)) rfl rfl ⟨by decide, by decide⟩ ⟨Nat.le_refl _, Nat.le_refl _⟩ (Nat.le_of_ble_eq_true rfl) (am_rie ?_)
          refine am_intE (show _ = iZ (crs l r a b) from rfl) ?_
          refine am_ifZ_ne (q := 36) (tgt := 38) C dX1_rayTowards_33 (by decide) rfl ⟨by have := crs_rg (f3 r (by omega)).2.2.1 (f3 r (by omega)).2.2.2 ha hb; omega, by have := crs_rg (f3 r (by omega)).2.2.1 (f3 r (by omega)).2.2.2 ha hb; omega⟩ (fun h3 => ?_) (fun h3 => ?_)
          · refine am_iincZ (q := 41) (L' := [some (.ref 169), some (.int (iZ (a : Int))), some (.int (iZ (b : Int))), some (.int (iZ ((r + 1 : Nat) : Int)))]) C dX1_rayTowards_38 rfl rfl (by omega) (by decide) rfl rfl ?_
            refine am_goto (q := 2) C dX1_rayTowards_41 (by decide) ?_
            exact ih (r + 1) (by omega) (fun j h => by
              by_cases e : j = r
              · rw [e]; omega
              · exact hj j (by omega)) (by omega)
          · refine am_iload_n (q := 37) C dX1_rayTowards_36 rfl rfl ?_
            refine am_iret C T dX1_rayTowards_37 rfl (Nat.le_refl _) (Nat.le_refl _) ⟨_, rfl, ?_⟩
            refine ⟨congrArg iZ ?_, rfl⟩
            unfold fidx
            rw [fz_eq l a b r (by omega) hj (Or.inr (by omega)), if_pos (by omega)]
  refine am_iconst (q := 1) (v := iZ 0) C dX1_rayTowards_0 rfl rfl ?_
  refine am_istore_n (q := 2) (L' := [some (.ref 169), some (.int (iZ (a : Int))), some (.int (iZ (b : Int))), some (.int (iZ 0))]) C dX1_rayTowards_1 rfl (by decide) rfl rfl ?_
  exact lp (l.length + 1) 0 (by omega) (fun j h => absurd h (Nat.not_lt_zero _)) (by omega)
set_option maxRecDepth 4000 in
theorem sp_X1_findPeriod {t : PT} (hA : atP 1 I J t) (hK : okP t) : am_S G mX1_findPeriod 3 0 0 [.ref 169, .ref 1] (215, kK, kR, I, J) (am_qv (fun w' => ∃ I' : Nat → Nat → Int32, w' = (215, kK, kR, I', J) ∧ (∀ x, x ≠ 169 → I' x = I x) ∧ (∀ k, k ≠ 5 → I' 169 k = I 169 k) ∧ I' 169 5 = iZ (perP t (pm t) : Int))) := by
  have hm := hK.1
  refine am_spec (plainFor_of_name (by decide +kernel)) (Nat.le_of_ble_eq_true rfl) (L := [some (.ref 169), some (.ref 1), none, none]) rfl (fun X C T => ?_)
  have lpo : ∀ (fuel : Nat) (p : Nat) (I1 : Nat → Nat → Int32), (p ≤ pm t) → (∀ x, x ≠ 169 → I1 x = I x) → (∀ k, k ≠ 5 → I1 169 k = I 169 k) → (I1 169 5 = iZ (perP t p : Int)) → pm t - p < fuel → am_A G mX1_findPeriod X (am_rm 3 0 0) 7 [some (.ref 169), some (.ref 1), some (.int (iZ (p : Int))), none] [] (215, kK, kR, I1, J) 0 0 ∧ ∀ (q : Int), am_A G mX1_findPeriod X (am_rm 3 0 0) 7 [some (.ref 169), some (.ref 1), some (.int (iZ (p : Int))), some (.int (iZ q))] [] (215, kK, kR, I1, J) 0 0 := by
    intro fuel
    induction fuel with
    | zero => intro p I1 hp hI hI5 h5 hf; exact absurd hf (Nat.not_lt_zero _)
    | succ fuel ih =>
      intro p I1 hp hI hI5 h5 hf
      have lpi : ∀ (fuel2 : Nat) (q : Nat) (I2 : Nat → Nat → Int32), (q ≤ p) → (p < pm t) → (∀ x, x ≠ 169 → I2 x = I x) → (∀ k, k ≠ 5 → I2 169 k = I 169 k) → (I2 169 5 = iZ (perQ t p (perP t p) q : Int)) → (p - q) < fuel2 → am_A G mX1_findPeriod X (am_rm 3 0 0) 23 [some (.ref 169), some (.ref 1), some (.int (iZ (p : Int))), some (.int (iZ (q : Int)))] [] (215, kK, kR, I2, J) 0 0 := by
        intro fuel2
        induction fuel2 with
        | zero => intro q I2 hq hpm hI hI5 h5 hf; exact absurd hf (Nat.not_lt_zero _)
        | succ fuel2 ih2 =>
          intro q I2 hq hpm hI hI5 h5 hf
          have hper := perQ_ok hK hpm (perP_ok hK p (by omega)) q hq
          refine am_iload_n (q := 24) C dX1_findPeriod_23 rfl rfl ?_
          refine am_iload_n (q := 25) C dX1_findPeriod_24 rfl rfl ?_
          refine am_icmpZ_ge (q := 28) (tgt := 75) C dX1_findPeriod_25 (by decide) rfl ⟨by omega, by omega⟩ ⟨by omega, by omega⟩ (fun c4 => ?_) (fun c4 => ?_)
          · refine am_iincZ (q := 78) (L' := [some (.ref 169), some (.ref 1), some (.int (iZ ((p + 1 : Nat) : Int))), some (.int (iZ (q : Int)))]) C dX1_findPeriod_75 rfl rfl (by omega) (by decide) rfl rfl ?_
            refine am_goto (q := 7) C dX1_findPeriod_78 (by decide) ?_
            exact (ih (p + 1) _ (by omega) hI hI5 (by rw [h5, show q = p by omega]; rfl) (by omega)).2 _
          · refine am_aload_n (q := 29) C dX1_findPeriod_28 rfl rfl ?_
            refine am_aload_n (q := 30) C dX1_findPeriod_29 rfl rfl ?_
            refine am_getIe (q := 33) (v := (iZ (perQ t p (perP t p) q : Int))) C fb_X1_28 dX1_findPeriod_30 rfl rfl kk_169 (show 169 < 215 by decide) h5 ?_
            refine am_aload_n (q := 34) C dX1_findPeriod_33 rfl rfl ?_
            refine am_getR (q := 37) C fb_X1_46 dX1_findPeriod_34 rfl rfl kk_1 (show 1 < 215 by decide) kr_1_0 ?_
            refine am_iload_n (q := 38) C dX1_findPeriod_37 rfl rfl ?_
            refine am_ialoadZ (q := 39) p C dX1_findPeriod_38 rfl kk_2 (show 2 < 215 by decide) rfl (by omega) (by decide) ?_
            refine am_intE (y := (iZ (pa t p : Int))) (by rw [hI 2 (by omega)]; exact (hA.2 p (by omega)).1) ?_
            refine am_aload_n (q := 40) C dX1_findPeriod_39 rfl rfl ?_
            refine am_getR (q := 43) C fb_X1_47 dX1_findPeriod_40 rfl rfl kk_1 (show 1 < 215 by decide) kr_1_1 ?_
            refine am_iload_n (q := 44) C dX1_findPeriod_43 rfl rfl ?_
            refine am_ialoadZ (q := 45) p C dX1_findPeriod_44 rfl kk_3 (show 3 < 215 by decide) rfl (by omega) (by decide) ?_
            refine am_intE (y := (iZ (pb t p : Int))) (by rw [hI 3 (by omega)]; exact (hA.2 p (by omega)).2.1) ?_
            refine am_aload_n (q := 46) C dX1_findPeriod_45 rfl rfl ?_
            refine am_getR (q := 49) C fb_X1_46 dX1_findPeriod_46 rfl rfl kk_1 (show 1 < 215 by decide) kr_1_0 ?_
            refine am_iload_n (q := 50) C dX1_findPeriod_49 rfl rfl ?_
            refine am_ialoadZ (q := 51) q C dX1_findPeriod_50 rfl kk_2 (show 2 < 215 by decide) rfl (by omega) (by decide) ?_
            refine am_intE (y := (iZ (pa t q : Int))) (by rw [hI 2 (by omega)]; exact (hA.2 q (by omega)).1) ?_
            refine am_aload_n (q := 52) C dX1_findPeriod_51 rfl rfl ?_
            refine am_getR (q := 55) C fb_X1_47 dX1_findPeriod_52 rfl rfl kk_1 (show 1 < 215 by decide) kr_1_1 ?_
            refine am_iload_n (q := 56) C dX1_findPeriod_55 rfl rfl ?_
            refine am_ialoadZ (q := 57) q C dX1_findPeriod_56 rfl kk_3 (show 3 < 215 by decide) rfl (by omega) (by decide) ?_
            refine am_intE (y := (iZ (pb t q : Int))) (by rw [hI 3 (by omega)]; exact (hA.2 q (by omega)).2.1) ?_
            refine am_callS (q := 60) (As := [.int (iZ (pa t p : Int)), .int (iZ (pb t p : Int)), .int (iZ (pa t q : Int)), .int (iZ (pb t q : Int))]) (rest := [.int (iZ (perQ t p (perP t p) q : Int)), .ref 169]) C mb_X1_turn st_X1_turn ml_X1_69 dX1_findPeriod_57 rfl (sp_X1_turn (pa t p : Int) (pb t p : Int) (pa t q : Int) (pb t q : Int)) rfl rfl ⟨by decide, by decide⟩ ⟨Nat.le_refl _, Nat.le_refl _⟩ (Nat.le_of_ble_eq_true rfl) (am_rie ?_)
            refine am_callS (q := 63) (As := [.int (iZ ((pa t p : Int) * (pb t q : Int) - (pb t p : Int) * (pa t q : Int)))]) (rest := [.int (iZ (perQ t p (perP t p) q : Int)), .ref 169]) C mb_J9_abs_0f7a4 st_J9_abs_0f7a4 ml_X1_76 dX1_findPeriod_60 rfl (sp_abs (detI_rg hK (by omega) (by omega))) rfl rfl ⟨by decide, by decide⟩ ⟨Nat.le_refl _, Nat.le_refl _⟩ (Nat.le_of_ble_eq_true rfl) (am_rie ?_)
            refine am_intE (show _ = iZ (detN t p q : Int) from congrArg iZ (abs_nat _)) ?_
            refine am_callS (q := 66) (As := [.int (iZ (perQ t p (perP t p) q : Int)), .int (iZ (detN t p q : Int))]) (rest := [.ref 169]) C mb_X1_commonMultiple st_X1_commonMultiple ml_X1_80 dX1_findPeriod_63 rfl (sp_X1_commonMultiple (x := perQ t p (perP t p) q) (d := detN t p q) hper.1 (per_le hper) (detN_le hK (by omega) (by omega))) rfl rfl ⟨by decide, by decide⟩ ⟨Nat.le_refl _, Nat.le_refl _⟩ (Nat.le_of_ble_eq_true rfl) (am_rie ?_)
            refine am_putI (q := 69) C fw_X1_28 dX1_findPeriod_66 rfl rfl kk_169 (show 169 < 215 by decide) ?_
            refine am_iincZ (q := 72) (L' := [some (.ref 169), some (.ref 1), some (.int (iZ (p : Int))), some (.int (iZ ((q + 1 : Nat) : Int)))]) C dX1_findPeriod_69 rfl rfl (by omega) (by decide) rfl rfl ?_
            refine am_goto (q := 23) C dX1_findPeriod_72 (by decide) ?_
            exact ih2 (q + 1) _ (by omega) hpm (fun x hx => by rw [am_up_row _ _ _ _ hx]; exact hI x hx) (fun k hk => by rw [am_up_ne _ _ _ _ (Or.inr hk)]; exact hI5 k hk) (by rw [am_up_eq]; rfl) (by omega)
      constructor
      · refine am_iload_n (q := 8) C dX1_findPeriod_7 rfl rfl ?_
        refine am_aload_n (q := 9) C dX1_findPeriod_8 rfl rfl ?_
        refine am_getIe (q := 12) (v := (iZ (pm t : Int))) C fb_X1_41 dX1_findPeriod_9 rfl rfl kk_1 (show 1 < 215 by decide) (by rw [hI 1 (by omega)]; exact hA.1) ?_
        refine am_icmpZ_ge (q := 15) (tgt := 81) C dX1_findPeriod_12 (by decide) rfl ⟨by omega, by omega⟩ ⟨by omega, by omega⟩ (fun c5 => ?_) (fun c5 => ?_)
        · refine am_vret C T dX1_findPeriod_81 rfl (Nat.le_refl _) (Nat.le_refl _) ⟨rfl, ?_⟩
          rw [show p = pm t by omega] at h5
          exact ⟨_, rfl, hI, hI5, h5⟩
        · refine am_iload_n (q := 16) C dX1_findPeriod_15 rfl rfl ?_
          refine am_bipush (q := 18) (v := iZ 6) C dX1_findPeriod_16 rfl rfl ?_
          refine am_icmpZ_ge (q := 21) (tgt := 81) C dX1_findPeriod_18 (by decide) rfl ⟨by omega, by omega⟩ ⟨by omega, by omega⟩ (fun c6 => ?_) (fun c6 => ?_)
          · refine am_vret C T dX1_findPeriod_81 rfl (Nat.le_refl _) (Nat.le_refl _) ⟨rfl, ?_⟩
            rw [show p = pm t by omega] at h5
            exact ⟨_, rfl, hI, hI5, h5⟩
          · refine am_iconst (q := 22) (v := iZ 0) C dX1_findPeriod_21 rfl rfl ?_
            refine am_istore_n (q := 23) (L' := [some (.ref 169), some (.ref 1), some (.int (iZ (p : Int))), some (.int (iZ 0))]) C dX1_findPeriod_22 rfl (by decide) rfl rfl ?_
            exact lpi (p + 1) 0 I1 (by omega) (by omega) hI hI5 h5 (by omega)
      · intro q
        refine am_iload_n (q := 8) C dX1_findPeriod_7 rfl rfl ?_
        refine am_aload_n (q := 9) C dX1_findPeriod_8 rfl rfl ?_
        refine am_getIe (q := 12) (v := (iZ (pm t : Int))) C fb_X1_41 dX1_findPeriod_9 rfl rfl kk_1 (show 1 < 215 by decide) (by rw [hI 1 (by omega)]; exact hA.1) ?_
        refine am_icmpZ_ge (q := 15) (tgt := 81) C dX1_findPeriod_12 (by decide) rfl ⟨by omega, by omega⟩ ⟨by omega, by omega⟩ (fun c7 => ?_) (fun c7 => ?_)
        · refine am_vret C T dX1_findPeriod_81 rfl (Nat.le_refl _) (Nat.le_refl _) ⟨rfl, ?_⟩
          rw [show p = pm t by omega] at h5
          exact ⟨_, rfl, hI, hI5, h5⟩
        · refine am_iload_n (q := 16) C dX1_findPeriod_15 rfl rfl ?_
          refine am_bipush (q := 18) (v := iZ 6) C dX1_findPeriod_16 rfl rfl ?_
          refine am_icmpZ_ge (q := 21) (tgt := 81) C dX1_findPeriod_18 (by decide) rfl ⟨by omega, by omega⟩ ⟨by omega, by omega⟩ (fun c8 => ?_) (fun c8 => ?_)
          · refine am_vret C T dX1_findPeriod_81 rfl (Nat.le_refl _) (Nat.le_refl _) ⟨rfl, ?_⟩
            rw [show p = pm t by omega] at h5
            exact ⟨_, rfl, hI, hI5, h5⟩
          · refine am_iconst (q := 22) (v := iZ 0) C dX1_findPeriod_21 rfl rfl ?_
            refine am_istore_n (q := 23) (L' := [some (.ref 169), some (.ref 1), some (.int (iZ (p : Int))), some (.int (iZ 0))]) C dX1_findPeriod_22 rfl (by decide) rfl rfl ?_
            exact lpi (p + 1) 0 I1 (by omega) (by omega) hI hI5 h5 (by omega)
  refine am_aload_n (q := 1) C dX1_findPeriod_0 rfl rfl ?_
  refine am_iconst (q := 2) (v := iZ 1) C dX1_findPeriod_1 rfl rfl ?_
  refine am_putI (q := 5) C fw_X1_28 dX1_findPeriod_2 rfl rfl kk_169 (show 169 < 215 by decide) ?_
  refine am_iconst (q := 6) (v := iZ 0) C dX1_findPeriod_5 rfl rfl ?_
  refine am_istore_n (q := 7) (L' := [some (.ref 169), some (.ref 1), some (.int (iZ 0)), none]) C dX1_findPeriod_6 rfl (by decide) rfl rfl ?_
  exact (lpo (pm t + 1) 0 _ (by omega) (fun x hx => by rw [am_up_row _ _ _ _ hx]) (fun k hk => by rw [am_up_ne _ _ _ _ (Or.inr hk)]) (by rw [am_up_eq]; rfl) (by omega)).1
