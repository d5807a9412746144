variable {G : am_G} {I : Nat → Nat → Int32} {J : Nat → Nat → Int64}
theorem refT_rg (s w : Int) : -13 ≤ refT s w ∧ refT s w ≤ 0 := by
  unfold refT
  split
  · omega
  · split
    · omega
    · split <;> omega
theorem refT_0 {s w : Int} (h : refT s w = 0) : 1 ≤ w ∧ w ≤ 10 ∧ s ≠ -1 ∧ s ≠ 2 := by
  unfold refT at h
  split at h
  · omega
  · split at h
    · omega
    · split at h
      · omega
      · omega
/-- the greatest that stands in a row -/
def limS (s : Int) : Nat := if s = 0 then 127 else 32767
theorem limS_le (s : Int) : limS s ≤ 32767 := by unfold limS; split <;> omega
/-- all fit -/
def fitT (t : PT) (m w : Nat) : Nat → Bool
  | 0 => true
  | k + 1 => fitT t m w k && decide (Wy t (pm t) (k % w) (k / w) ≤ m)
theorem fitT_no {t : PT} {m w k : Nat} (h : ¬ Wy t (pm t) (k % w) (k / w) ≤ m) : ∀ n, k < n → fitT t m w n = false
  | 0, h0 => absurd h0 (Nat.not_lt_zero _)
  | n + 1, h0 => by
    by_cases e : k = n
    · show (fitT t m w n && decide (Wy t (pm t) (n % w) (n / w) ≤ m)) = false
      rw [← e, decide_eq_false h, Bool.and_false]
    · show (fitT t m w n && _) = false
      rw [fitT_no h n (by omega)]; rfl
def layF (σ : SG) (i w : Nat) (k : Nat) : Int64 := if k < sN σ i then lN (Wy σ.1 (pm σ.1) (k % w) (k / w)) else sF σ i k
def layA (σ : SG) (p w : Int) : Int := if 0 ≤ p ∧ p < 4 then (if refT (sS σ p.toNat) w = 0 then (if fitT σ.1 (limS (sS σ p.toNat)) w.toNat (sN σ p.toNat) = true then (sN σ p.toNat : Int) else -16) else refT (sS σ p.toNat) w) else -1
def layT (σ : SG) (p w : Int) : SG := if 0 ≤ p ∧ p < 4 then (if refT (sS σ p.toNat) w = 0 then (if fitT σ.1 (limS (sS σ p.toNat)) w.toNat (sN σ p.toNat) = true then shS σ p.toNat (sS σ p.toNat) (sN σ p.toNat) (layF σ p.toNat w.toNat) else σ) else σ) else σ
/-- the first place from k on where something is so -/
def fstN (f : Nat → Bool) : Nat → Nat → Int
  | 0, _ => -3
  | m + 1, k => if f k = true then (k : Int) else fstN f m (k + 1)
def chkB (σ : SG) (i w k : Nat) : Bool := decide (sF σ i k ≠ lN (Wy σ.1 (pm σ.1) (k % w) (k / w)))
def checkA (σ : SG) (p w : Int) : Int := if 0 ≤ p ∧ p < 4 then (if refT (sS σ p.toNat) w = 0 then fstN (chkB σ p.toNat w.toNat) (sN σ p.toNat) 0 else refT (sS σ p.toNat) w) else -1
set_option maxRecDepth 4000 in
theorem sp_X10_waysAtPlace {t : PT} {kx ky : Int} (hkn : knW I kx ky) (hT : tabW J kx ky t 0) {k u : Nat} (hu : 1 ≤ u ∧ u ≤ 10) (hk : k < 60) (hx : ((k % u : Nat) : Int) ≤ kx) (hy : ((k / u : Nat) : Int) ≤ ky) : am_S G mX10_waysAtPlace 3 0 0 [.ref 0, .int (iZ (k : Int)), .int (iZ (u : Int))] (215, kK, kR, I, J) (am_fl (lN (Wy t (pm t) (k % u) (k / u))) (215, kK, kR, I, J)) := by
  have h1 := Nat.mod_lt k (show u > 0 by omega)
  have h2 : k / u ≤ k := Nat.div_le_self _ _
  have h3 : (0 : Int) ≤ ((k / u : Nat) : Int) := Int.natCast_nonneg _
  refine am_spec (plainFor_of_name (by decide +kernel)) (Nat.le_of_ble_eq_true rfl) (L := [some (.ref 0), some (.int (iZ (k : Int))), some (.int (iZ (u : Int)))]) rfl (fun X C T => ?_)
  refine am_iload_n (q := 1) C dX10_waysAtPlace_0 rfl rfl ?_
  refine am_iconst (q := 2) (v := iZ 1) C dX10_waysAtPlace_1 rfl rfl ?_
  refine am_icmpZ_ge (q := 5) (tgt := 9) C dX10_waysAtPlace_2 (by decide) rfl ⟨by omega, by omega⟩ ⟨by omega, by omega⟩ (fun c1 => ?_) (fun c1 => ?_)
  · refine am_aload_n (q := 10) C dX10_waysAtPlace_9 rfl rfl ?_
    refine am_getR (q := 13) C fb_X10_59 dX10_waysAtPlace_10 rfl rfl kk_0 (show 0 < 215 by decide) kr_0_7 ?_
    refine am_iconst (q := 14) (v := iZ 0) C dX10_waysAtPlace_13 rfl rfl ?_
    refine am_iload_n (q := 15) C dX10_waysAtPlace_14 rfl rfl ?_
    refine am_iload_n (q := 16) C dX10_waysAtPlace_15 rfl rfl ?_
    refine am_iremZ (q := 17) C dX10_waysAtPlace_16 rfl ⟨by omega, by omega⟩ ⟨by omega, by omega⟩ (by omega) (by omega) ?_
    refine am_intE (y := (iZ ((k % u : Nat) : Int))) (congrArg iZ rfl) ?_
    refine am_iload_n (q := 18) C dX10_waysAtPlace_17 rfl rfl ?_
    refine am_iload_n (q := 19) C dX10_waysAtPlace_18 rfl rfl ?_
    refine am_idivZ (q := 20) C dX10_waysAtPlace_19 rfl ⟨by omega, by omega⟩ ⟨by omega, by omega⟩ (by omega) (by omega) ?_
    refine am_intE (y := (iZ ((k / u : Nat) : Int))) (congrArg iZ rfl) ?_
    refine am_callN (q := 23) (As := [.int (iZ 0), .int (iZ ((k % u : Nat) : Int)), .int (iZ ((k / u : Nat) : Int))]) (rest := []) C mb_X9_at im_X9_at se_X9_at mn_X10_174 cb_9 kk_176 (show 176 < 215 by decide) dX10_waysAtPlace_20 rfl (sp_X9_at hkn (l := 0) (x := ((k % u : Nat) : Int)) (y := ((k / u : Nat) : Int)) ⟨by omega, by omega⟩ ⟨by omega, by omega⟩ ⟨by omega, by omega⟩) rfl rfl ⟨by decide, by decide⟩ ⟨Nat.le_refl _, Nat.le_refl _⟩ (Nat.le_of_ble_eq_true rfl) (am_rle ?_)
    refine am_longE (y := lN (Wy t (pm t) (k % u) (k / u))) (ways_at hT ⟨by omega, by omega⟩ hx hy) ?_
    refine am_lret C T dX10_waysAtPlace_23 rfl (Nat.le_refl _) (Nat.le_refl _) ⟨_, rfl, ?_⟩
    exact ⟨rfl, rfl⟩
  · refine am_lconst (q := 6) (v := lN 0) C dX10_waysAtPlace_5 rfl rfl ?_
    refine am_goto (q := 23) C dX10_waysAtPlace_6 (by decide) ?_
    refine am_lret C T dX10_waysAtPlace_23 rfl (Nat.le_refl _) (Nat.le_refl _) ⟨_, rfl, ?_⟩
    exfalso; omega
set_option maxRecDepth 4000 in
theorem sp_X10_lay {σ : SG} (hC : atC I J σ) {p w : Int} (hp : rg p) (hw : rg w) : am_S G mX10_lay 6 0 0 [.ref 0, .int (iZ p), .int (iZ w)] (215, kK, kR, I, J) (am_qi (fun v w' => v = iZ (layA σ p w) ∧ ∃ (I' : Nat → Nat → Int32) (J' : Nat → Nat → Int64), w' = (215, kK, kR, I', J') ∧ atC I' J' (layT σ p w) ∧ frC I J I' J')) := by
  refine am_spec (plainFor_of_name (by decide +kernel)) (Nat.le_of_ble_eq_true rfl) (L := [some (.ref 0), some (.int (iZ p)), some (.int (iZ w)), none, none, none]) rfl (fun X C T => ?_)
  by_cases h0 : 0 ≤ p ∧ p < 4
  · obtain ⟨i, rfl⟩ : ∃ q : Nat, p = q := ⟨p.toNat, by omega⟩
    have hi : i < 4 := by omega
    have hA := atC_sh hC hi
    obtain ⟨a1, a2, a3, a4, a5, a6⟩ := hA
    refine am_aload_n (q := 1) C dX10_lay_0 rfl rfl ?_
    refine am_iload_n (q := 2) C dX10_lay_1 rfl rfl ?_
    refine am_callV (q := 5) (As := [.int (iZ (i : Int))]) (rest := []) C mb_X10_sheetAt im_X10_sheetAt se_X10_sheetAt ml_X10_257 cb_10 kk_0 (show 0 < 215 by decide) dX10_lay_2 rfl (sp_sheetAtI hi) rfl rfl ⟨by decide, by decide⟩ ⟨Nat.le_refl _, Nat.le_refl _⟩ (Nat.le_of_ble_eq_true rfl) (am_rre ?_)
    show am_A _ _ _ _ _ _ (.ref (183 + 2 * i) :: _) _ _ _
    refine am_astore_n (q := 6) (L' := [some (.ref 0), some (.int (iZ (i : Int))), some (.int (iZ w)), some (.ref (183 + 2 * i)), none, none]) C dX10_lay_5 rfl (by decide) rfl rfl ?_
    refine am_aload_n (q := 7) C dX10_lay_6 rfl rfl ?_
    refine am_iload_n (q := 8) C dX10_lay_7 rfl rfl ?_
    have hrf := refT_rg (sS σ i) w
    refine am_callS (q := 11) (As := [.ref (183 + 2 * i), .int (iZ w)]) (rest := []) C mb_X10_tableRefusal st_X10_tableRefusal ml_X10_278 dX10_lay_8 rfl (sp_X10_tableRefusal hi (atC_sh hC hi) hw) rfl rfl ⟨by decide, by decide⟩ ⟨Nat.le_refl _, Nat.le_refl _⟩ (Nat.le_of_ble_eq_true rfl) (am_rie ?_)
    refine am_istore (q := 13) (L' := [some (.ref 0), some (.int (iZ (i : Int))), some (.int (iZ w)), some (.ref (183 + 2 * i)), some (.int (iZ (refT (sS σ i) w))), none]) C dX10_lay_11 rfl (by decide) rfl rfl ?_
    refine am_aload_n (q := 14) C dX10_lay_13 rfl rfl ?_
    refine am_ifnull (q := 17) C dX10_lay_14 rfl ?_
    refine am_iload (q := 19) C dX10_lay_17 rfl rfl ?_
    refine am_ifZ_eq (q := 22) (tgt := 25) C dX10_lay_19 (by decide) rfl ⟨by omega, by omega⟩ (fun c1 => ?_) (fun c1 => ?_)
    · obtain ⟨hw1, hw2, hs1, hs2⟩ := refT_0 (by assumption)
      obtain ⟨u, rfl⟩ : ∃ u : Nat, w = u := ⟨w.toNat, by omega⟩
      have hu : 1 ≤ u ∧ u ≤ 10 := ⟨by omega, by omega⟩
      have hdv : (sN σ i - 1) / u ≤ sN σ i - 1 := Nat.div_le_self _ _
      have hdw : (0 : Int) ≤ (((sN σ i - 1) / u : Nat) : Int) := Int.natCast_nonneg _
      refine am_aload_n (q := 26) C dX10_lay_25 rfl rfl ?_
      refine am_getR (q := 29) C fb_X10_59 dX10_lay_26 rfl rfl kk_0 (show 0 < 215 by decide) kr_0_7 ?_
      refine am_iload_n (q := 30) C dX10_lay_29 rfl rfl ?_
      refine am_iconst (q := 31) (v := iZ 1) C dX10_lay_30 rfl rfl ?_
      refine am_isubZ (q := 32) C dX10_lay_31 rfl ?_
      refine am_intE (y := (iZ ((u - 1 : Nat) : Int))) (congrArg iZ (by omega)) ?_
      refine am_aload_n (q := 33) C dX10_lay_32 rfl rfl ?_
      refine am_iload_n (q := 34) C dX10_lay_33 rfl rfl ?_
      refine am_callN (q := 37) (As := [.int (iZ (u : Int))]) (rest := [.int (iZ ((u - 1 : Nat) : Int)), .ref 176]) C mb_X7_lastUp im_X7_lastUp se_X7_lastUp mn_X10_282 cb_7 (isS_c i hi).1 (show 183 + 2 * i < 215 by omega) dX10_lay_34 rfl (sp_X7_lastUp hi (atC_sh hC hi) (w := u) hu) rfl rfl ⟨by decide, by decide⟩ ⟨Nat.le_refl _, Nat.le_refl _⟩ (Nat.le_of_ble_eq_true rfl) (am_rie ?_)
      refine am_aload_n (q := 38) C dX10_lay_37 rfl rfl ?_
      refine am_getR (q := 41) C fb_X10_14 dX10_lay_38 rfl rfl kk_0 (show 0 < 215 by decide) kr_0_0 ?_
      refine am_callN (q := 44) (As := [.int (iZ ((u - 1 : Nat) : Int)), .int (iZ (((sN σ i - 1) / u : Nat) : Int)), .ref 1]) (rest := []) C mb_X9_reach im_X9_reach se_X9_reach mn_X10_170 cb_9 kk_176 (show 176 < 215 by decide) dX10_lay_41 rfl (sp_X9_reach hC.1 hC.2.1 hC.2.2.1.2.2 (x := ((u - 1 : Nat) : Int)) (y := (((sN σ i - 1) / u : Nat) : Int)) (by omega) (by omega)) rfl rfl ⟨by decide, by decide⟩ ⟨Nat.le_refl _, Nat.le_refl _⟩ (Nat.le_of_ble_eq_true rfl) (am_rv (fun w' hw' => ?_))
      obtain ⟨I1, J1, rfl, ⟨kx, ky, hkn, hT1, hkx, hky⟩, hI1, hJ1⟩ := hw'
      have hC1 : atC I1 J1 σ := atC_ways hC ⟨kx, ky, hkn, hT1⟩ hI1 hJ1
      have hfr : frC I J I1 J1 := fun z hz => ⟨hI1 z (by omega), hJ1 z (by omega)⟩
      have hb : ∀ k, k < sN σ i → ((k % u : Nat) : Int) ≤ kx ∧ ((k / u : Nat) : Int) ≤ ky := fun k hk => by
        have h1 := Nat.mod_lt k (show u > 0 by omega)
        have h2 : k / u ≤ (sN σ i - 1) / u := Nat.div_le_div_right (by omega)
        omega
      obtain ⟨b1, b2, b3, b4, b5, b6⟩ := atC_sh hC1 hi
      refine am_iconst (q := 45) (v := iZ 0) C dX10_lay_44 rfl rfl ?_
      refine am_istore (q := 47) (L' := [some (.ref 0), some (.int (iZ (i : Int))), some (.int (iZ (u : Int))), some (.ref (183 + 2 * i)), some (.int (iZ (refT (sS σ i) (u : Int)))), some (.int (iZ 0))]) C dX10_lay_45 rfl (by decide) rfl rfl ?_
      have l2 : fitT σ.1 (limS (sS σ i)) u (sN σ i) = true → ∀ (fuel : Nat) (k : Nat) (J2 : Nat → Nat → Int64), (k ≤ sN σ i) → (∀ x, x ≠ 184 + 2 * i → J2 x = J1 x) → (∀ j, j < 60 → J2 (184 + 2 * i) j = if j < k then lN (Wy σ.1 (pm σ.1) (j % u) (j / u)) else sF σ i j) → (sN σ i - k) < fuel → am_A G mX10_lay X (am_rm 6 0 0) 83 [some (.ref 0), some (.int (iZ (i : Int))), some (.int (iZ (u : Int))), some (.ref (183 + 2 * i)), none, some (.int (iZ (k : Int)))] [] (215, kK, kR, I1, J2) 0 0 := by
        intro hfit fuel
        induction fuel with
        | zero => intro k J2 hk hJ2 hz hf; exact absurd hf (Nat.not_lt_zero _)
        | succ fuel ih =>
          intro k J2 hk hJ2 hz hf
          have hT2 : tabW J2 kx ky σ.1 0 := fun l x y g1 g2 hx hy => by rw [hJ2 177 (by omega)]; exact hT1 l x y g1 g2 hx hy
          refine am_iload (q := 85) C dX10_lay_83 rfl rfl ?_
          refine am_aload_n (q := 86) C dX10_lay_85 rfl rfl ?_
          refine am_getIe (q := 89) (v := (iZ (sN σ i : Int))) C fb_X10_286 dX10_lay_86 rfl rfl (isS_c i hi).1 (show 183 + 2 * i < 215 by omega) b2 ?_
          refine am_icmpZ_ge (q := 92) (tgt := 119) C dX10_lay_89 (by decide) rfl ⟨by omega, by omega⟩ ⟨by omega, by omega⟩ (fun g1 => ?_) (fun g1 => ?_)
          · refine am_aload_n (q := 120) C dX10_lay_119 rfl rfl ?_
            refine am_getIe (q := 123) (v := (iZ (sN σ i : Int))) C fb_X10_286 dX10_lay_120 rfl rfl (isS_c i hi).1 (show 183 + 2 * i < 215 by omega) b2 ?_
            refine am_iret C T dX10_lay_123 rfl (Nat.le_refl _) (Nat.le_refl _) ⟨_, rfl, ?_⟩
            have e1 : layA σ (i : Int) (u : Int) = (sN σ i : Int) := by
              unfold layA
              simp only [Int.toNat_natCast]
              rw [if_pos (by omega), if_pos (by assumption), if_pos hfit]
            have e2 : layT σ (i : Int) (u : Int) = shS σ i (sS σ i) (sN σ i) (layF σ i u) := by
              unfold layT
              simp only [Int.toNat_natCast]
              rw [if_pos (by omega), if_pos (by assumption), if_pos hfit]
            rw [e1, e2]
            refine ⟨rfl, _, _, rfl, atC_shS hC1 hi ⟨b1, b2, b3, b4, b5, fun j hj => ?_⟩ (fun x hx => rfl) hJ2, frC_tr hfr (frC_sh hi (fun x hx => rfl) hJ2)⟩
            rw [hz j hj]
            unfold layF
            rw [show k = sN σ i by omega]
          · refine am_iload (q := 94) C dX10_lay_92 rfl rfl ?_
            refine am_bipush (q := 96) (v := iZ 60) C dX10_lay_94 rfl rfl ?_
            refine am_icmpZ_ge (q := 99) (tgt := 119) C dX10_lay_96 (by decide) rfl ⟨by omega, by omega⟩ ⟨by omega, by omega⟩ (fun g2 => ?_) (fun g2 => ?_)
            · refine am_aload_n (q := 120) C dX10_lay_119 rfl rfl ?_
              refine am_getIe (q := 123) (v := (iZ (sN σ i : Int))) C fb_X10_286 dX10_lay_120 rfl rfl (isS_c i hi).1 (show 183 + 2 * i < 215 by omega) b2 ?_
              refine am_iret C T dX10_lay_123 rfl (Nat.le_refl _) (Nat.le_refl _) ⟨_, rfl, ?_⟩
              have e1 : layA σ (i : Int) (u : Int) = (sN σ i : Int) := by
                unfold layA
                simp only [Int.toNat_natCast]
                rw [if_pos (by omega), if_pos (by assumption), if_pos hfit]
              have e2 : layT σ (i : Int) (u : Int) = shS σ i (sS σ i) (sN σ i) (layF σ i u) := by
                unfold layT
                simp only [Int.toNat_natCast]
                rw [if_pos (by omega), if_pos (by assumption), if_pos hfit]
              rw [e1, e2]
              refine ⟨rfl, _, _, rfl, atC_shS hC1 hi ⟨b1, b2, b3, b4, b5, fun j hj => ?_⟩ (fun x hx => rfl) hJ2, frC_tr hfr (frC_sh hi (fun x hx => rfl) hJ2)⟩
              rw [hz j hj]
              unfold layF
              rw [show k = sN σ i by omega]
            · refine am_aload_n (q := 100) C dX10_lay_99 rfl rfl ?_
              refine am_getR (q := 103) C fb_X10_271 dX10_lay_100 rfl rfl (isS_c i hi).1 (show 183 + 2 * i < 215 by omega) (isS_c i hi).2.2.1 ?_
              refine am_iload (q := 105) C dX10_lay_103 rfl rfl ?_
              refine am_aload_n (q := 106) C dX10_lay_105 rfl rfl ?_
              refine am_iload (q := 108) C dX10_lay_106 rfl rfl ?_
              refine am_iload_n (q := 109) C dX10_lay_108 rfl rfl ?_
              refine am_callV (q := 112) (As := [.int (iZ (k : Int)), .int (iZ (u : Int))]) (rest := [.int (iZ (k : Int)), .ref (184 + 2 * i)]) C mb_X10_waysAtPlace im_X10_waysAtPlace se_X10_waysAtPlace ml_X10_287 cb_10 kk_0 (show 0 < 215 by decide) dX10_lay_109 rfl (sp_X10_waysAtPlace hkn hT2 (k := k) (u := u) hu (by omega) (hb k (by omega)).1 (hb k (by omega)).2) rfl rfl ⟨by decide, by decide⟩ ⟨Nat.le_refl _, Nat.le_refl _⟩ (Nat.le_of_ble_eq_true rfl) (am_rle ?_)
              refine am_lastoreZ (q := 113) k C dX10_lay_112 rfl (isS_c i hi).2.1 (show 184 + 2 * i < 215 by omega) rfl (by omega) (by decide) ?_
              refine am_iincZ (q := 116) (L' := [some (.ref 0), some (.int (iZ (i : Int))), some (.int (iZ (u : Int))), some (.ref (183 + 2 * i)), none, some (.int (iZ ((k + 1 : Nat) : Int)))]) C dX10_lay_113 rfl rfl (by omega) (by decide) rfl rfl ?_
              refine am_goto (q := 83) C dX10_lay_116 (by decide) ?_
              refine ih (k + 1) _ (by omega) (fun x hx => by rw [am_up_row _ _ _ _ hx]; exact hJ2 x hx) (fun j hj => ?_) (by omega)
              by_cases e : j = k
              · rw [e, am_up_eq, if_pos (by omega)]
              · rw [am_up_ne _ _ _ _ (Or.inr e), hz j hj]
                by_cases e2 : j < k
                · rw [if_pos e2, if_pos (by omega)]
                · rw [if_neg e2, if_neg (by omega)]
      have l1 : ∀ (fuel : Nat) (k : Nat), (k ≤ sN σ i) → (fitT σ.1 (limS (sS σ i)) u k = true) → (sN σ i - k) < fuel → am_A G mX10_lay X (am_rm 6 0 0) 47 [some (.ref 0), some (.int (iZ (i : Int))), some (.int (iZ (u : Int))), some (.ref (183 + 2 * i)), none, some (.int (iZ (k : Int)))] [] (215, kK, kR, I1, J1) 0 0 := by
        intro fuel
        induction fuel with
        | zero => intro k hk hf0 hf; exact absurd hf (Nat.not_lt_zero _)
        | succ fuel ih =>
          intro k hk hf0 hf
          refine am_iload (q := 49) C dX10_lay_47 rfl rfl ?_
          refine am_aload_n (q := 50) C dX10_lay_49 rfl rfl ?_
          refine am_getIe (q := 53) (v := (iZ (sN σ i : Int))) C fb_X10_286 dX10_lay_50 rfl rfl (isS_c i hi).1 (show 183 + 2 * i < 215 by omega) b2 ?_
          refine am_icmpZ_ge (q := 56) (tgt := 80) C dX10_lay_53 (by decide) rfl ⟨by omega, by omega⟩ ⟨by omega, by omega⟩ (fun e1 => ?_) (fun e1 => ?_)
          · rw [show k = sN σ i by omega] at hf0
            refine am_iconst (q := 81) (v := iZ 0) C dX10_lay_80 rfl rfl ?_
            refine am_istore (q := 83) (L' := [some (.ref 0), some (.int (iZ (i : Int))), some (.int (iZ (u : Int))), some (.ref (183 + 2 * i)), none, some (.int (iZ 0))]) C dX10_lay_81 rfl (by decide) rfl rfl ?_
            exact l2 hf0 (sN σ i + 1) 0 J1 (by omega) (fun x _ => rfl) (fun j hj => by rw [if_neg (Nat.not_lt_zero _)]; exact b6 j hj) (by omega)
          · refine am_aload_n (q := 57) C dX10_lay_56 rfl rfl ?_
            refine am_iload (q := 59) C dX10_lay_57 rfl rfl ?_
            refine am_iload_n (q := 60) C dX10_lay_59 rfl rfl ?_
            refine am_callV (q := 63) (As := [.int (iZ (k : Int)), .int (iZ (u : Int))]) (rest := []) C mb_X10_waysAtPlace im_X10_waysAtPlace se_X10_waysAtPlace ml_X10_287 cb_10 kk_0 (show 0 < 215 by decide) dX10_lay_60 rfl (sp_X10_waysAtPlace hkn hT1 (k := k) (u := u) hu (by omega) (hb k (by omega)).1 (hb k (by omega)).2) rfl rfl ⟨by decide, by decide⟩ ⟨Nat.le_refl _, Nat.le_refl _⟩ (Nat.le_of_ble_eq_true rfl) (am_rle ?_)
            refine am_aload_n (q := 64) C dX10_lay_63 rfl rfl ?_
            refine am_callN (q := 67) (As := []) (rest := [.long (lN (Wy σ.1 (pm σ.1) (k % u) (k / u)))]) C mb_X7_greatest im_X7_greatest se_X7_greatest mn_X10_290 cb_7 (isS_c i hi).1 (show 183 + 2 * i < 215 by omega) dX10_lay_64 rfl (sp_X7_greatest hi (atC_sh hC1 hi)) rfl rfl ⟨by decide, by decide⟩ ⟨Nat.le_refl _, Nat.le_refl _⟩ (Nat.le_of_ble_eq_true rfl) (am_rle ?_)
            refine am_longE (show _ = lN (limS (sS σ i)) from rfl) ?_
            refine am_lcmp (q := 68) C dX10_lay_67 rfl ?_
            refine am_if_le (q := 71) (tgt := 74) C dX10_lay_68 (by decide) rfl (fun e2 => ?_) (fun e2 => ?_)
            · have e2 := ((lg_cmp_le _ _).trans (pk_lLE (by have := Wy_le σ.1 (q := pm σ.1) hC.2.1.1 (k % u) (k / u); omega) (by have := limS_le (sS σ i); omega))).mp e2
              refine am_iincZ (q := 77) (L' := [some (.ref 0), some (.int (iZ (i : Int))), some (.int (iZ (u : Int))), some (.ref (183 + 2 * i)), none, some (.int (iZ ((k + 1 : Nat) : Int)))]) C dX10_lay_74 rfl rfl (by omega) (by decide) rfl rfl ?_
              refine am_goto (q := 47) C dX10_lay_77 (by decide) ?_
              refine ih (k + 1) (by omega) ?_ (by omega)
              show (fitT σ.1 (limS (sS σ i)) u k && decide (_ ≤ _)) = true
              rw [hf0, decide_eq_true (by omega)]; rfl
            · have e2 : ¬ (_) := fun z => e2 (((lg_cmp_le _ _).trans (pk_lLE (by have := Wy_le σ.1 (q := pm σ.1) hC.2.1.1 (k % u) (k / u); omega) (by have := limS_le (sS σ i); omega))).mpr z)
              refine am_bipush (q := 73) (v := iZ (-16)) C dX10_lay_71 rfl rfl ?_
              refine am_iret C T dX10_lay_73 rfl (Nat.le_refl _) (Nat.le_refl _) ⟨_, rfl, ?_⟩
              have hno := fitT_no (t := σ.1) (m := limS (sS σ i)) (w := u) (k := k) (by omega) (sN σ i) (by omega)
              have e1 : layA σ (i : Int) (u : Int) = -16 := by
                unfold layA
                simp only [Int.toNat_natCast]
                rw [if_pos (by omega), if_pos (by assumption), hno, if_neg (by decide)]
              have e2 : layT σ (i : Int) (u : Int) = σ := by
                unfold layT
                simp only [Int.toNat_natCast]
                rw [if_pos (by omega), if_pos (by assumption), hno, if_neg (by decide)]
              rw [e1, e2]
              exact ⟨rfl, _, _, rfl, hC1, hfr⟩
      refine am_wkA (L1 := [some (.ref 0), some (.int (iZ (i : Int))), some (.int (iZ (u : Int))), some (.ref (183 + 2 * i)), none, some (.int (iZ 0))]) ⟨rfl, ⟨rfl, ⟨rfl, ⟨rfl, ⟨rfl, trivial⟩⟩⟩⟩⟩ ?_
      exact l1 (sN σ i + 1) 0 (by omega) rfl (by omega)
    · refine am_iload (q := 24) C dX10_lay_22 rfl rfl ?_
      refine am_iret C T dX10_lay_24 rfl (Nat.le_refl _) (Nat.le_refl _) ⟨_, rfl, ?_⟩
      have e1 : layA σ (i : Int) w = refT (sS σ i) w := by
        unfold layA
        try simp only [Int.toNat_natCast]
        first | (rw [if_pos (by omega), if_neg (by omega)]; done)
      have e2 : layT σ (i : Int) w = σ := by
        unfold layT
        try simp only [Int.toNat_natCast]
        first | (rw [if_pos (by omega), if_neg (by omega)]; done)
      rw [e1, e2]
      exact ⟨rfl, _, _, rfl, hC, frC_refl⟩
  · refine am_aload_n (q := 1) C dX10_lay_0 rfl rfl ?_
    refine am_iload_n (q := 2) C dX10_lay_1 rfl rfl ?_
    refine am_callV (q := 5) (As := [.int (iZ p)]) (rest := []) C mb_X10_sheetAt im_X10_sheetAt se_X10_sheetAt ml_X10_257 cb_10 kk_0 (show 0 < 215 by decide) dX10_lay_2 rfl (sp_sheetAtO hp h0) rfl rfl ⟨by decide, by decide⟩ ⟨Nat.le_refl _, Nat.le_refl _⟩ (Nat.le_of_ble_eq_true rfl) (am_rre ?_)
    show am_A _ _ _ _ _ _ (.null :: _) _ _ _
    refine am_astore_nN (q := 6) (L' := [some (.ref 0), some (.int (iZ p)), some (.int (iZ w)), some (.null), none, none]) C dX10_lay_5 rfl (by decide) rfl rfl ?_
    refine am_aload_nN (q := 7) C dX10_lay_6 rfl rfl ?_
    refine am_iload_n (q := 8) C dX10_lay_7 rfl rfl ?_
    refine am_callS (q := 11) (As := [.null, .int (iZ w)]) (rest := []) C mb_X10_tableRefusal st_X10_tableRefusal ml_X10_278 dX10_lay_8 rfl sp_X10_tableRefusalN rfl rfl ⟨by decide, by decide⟩ ⟨Nat.le_refl _, Nat.le_refl _⟩ (Nat.le_of_ble_eq_true rfl) (am_rie ?_)
    refine am_istore (q := 13) (L' := [some (.ref 0), some (.int (iZ p)), some (.int (iZ w)), some (.null), some (.int (iZ (-1))), none]) C dX10_lay_11 rfl (by decide) rfl rfl ?_
    refine am_aload_nN (q := 14) C dX10_lay_13 rfl rfl ?_
    refine am_ifnullN (q := 22) C dX10_lay_14 (by decide) ?_
    refine am_iload (q := 24) C dX10_lay_22 rfl rfl ?_
    refine am_iret C T dX10_lay_24 rfl (Nat.le_refl _) (Nat.le_refl _) ⟨_, rfl, ?_⟩
    have e1 : layA σ p w = (-1) := by
      unfold layA
      try simp only [Int.toNat_natCast]
      first | (rw [if_neg (by omega)]; done)
    have e2 : layT σ p w = σ := by
      unfold layT
      try simp only [Int.toNat_natCast]
      first | (rw [if_neg (by omega)]; done)
    rw [e1, e2]
    exact ⟨rfl, _, _, rfl, hC, frC_refl⟩
set_option maxRecDepth 4000 in
theorem sp_X10_check {σ : SG} (hC : atC I J σ) {p w : Int} (hp : rg p) (hw : rg w) : am_S G mX10_check 6 0 0 [.ref 0, .int (iZ p), .int (iZ w)] (215, kK, kR, I, J) (am_qi (fun v w' => v = iZ (checkA σ p w) ∧ ∃ (I' : Nat → Nat → Int32) (J' : Nat → Nat → Int64), w' = (215, kK, kR, I', J') ∧ atC I' J' (σ) ∧ frC I J I' J')) := by
  refine am_spec (plainFor_of_name (by decide +kernel)) (Nat.le_of_ble_eq_true rfl) (L := [some (.ref 0), some (.int (iZ p)), some (.int (iZ w)), none, none, none]) rfl (fun X C T => ?_)
  by_cases h0 : 0 ≤ p ∧ p < 4
  · obtain ⟨i, rfl⟩ : ∃ q : Nat, p = q := ⟨p.toNat, by omega⟩
    have hi : i < 4 := by omega
    have hA := atC_sh hC hi
    obtain ⟨a1, a2, a3, a4, a5, a6⟩ := hA
    refine am_aload_n (q := 1) C dX10_check_0 rfl rfl ?_
    refine am_iload_n (q := 2) C dX10_check_1 rfl rfl ?_
    refine am_callV (q := 5) (As := [.int (iZ (i : Int))]) (rest := []) C mb_X10_sheetAt im_X10_sheetAt se_X10_sheetAt ml_X10_257 cb_10 kk_0 (show 0 < 215 by decide) dX10_check_2 rfl (sp_sheetAtI hi) rfl rfl ⟨by decide, by decide⟩ ⟨Nat.le_refl _, Nat.le_refl _⟩ (Nat.le_of_ble_eq_true rfl) (am_rre ?_)
    show am_A _ _ _ _ _ _ (.ref (183 + 2 * i) :: _) _ _ _
    refine am_astore_n (q := 6) (L' := [some (.ref 0), some (.int (iZ (i : Int))), some (.int (iZ w)), some (.ref (183 + 2 * i)), none, none]) C dX10_check_5 rfl (by decide) rfl rfl ?_
    refine am_aload_n (q := 7) C dX10_check_6 rfl rfl ?_
    refine am_iload_n (q := 8) C dX10_check_7 rfl rfl ?_
    have hrf := refT_rg (sS σ i) w
    refine am_callS (q := 11) (As := [.ref (183 + 2 * i), .int (iZ w)]) (rest := []) C mb_X10_tableRefusal st_X10_tableRefusal ml_X10_278 dX10_check_8 rfl (sp_X10_tableRefusal hi (atC_sh hC hi) hw) rfl rfl ⟨by decide, by decide⟩ ⟨Nat.le_refl _, Nat.le_refl _⟩ (Nat.le_of_ble_eq_true rfl) (am_rie ?_)
    refine am_istore (q := 13) (L' := [some (.ref 0), some (.int (iZ (i : Int))), some (.int (iZ w)), some (.ref (183 + 2 * i)), some (.int (iZ (refT (sS σ i) w))), none]) C dX10_check_11 rfl (by decide) rfl rfl ?_
    refine am_aload_n (q := 14) C dX10_check_13 rfl rfl ?_
    refine am_ifnull (q := 17) C dX10_check_14 rfl ?_
    refine am_iload (q := 19) C dX10_check_17 rfl rfl ?_
    refine am_ifZ_eq (q := 22) (tgt := 25) C dX10_check_19 (by decide) rfl ⟨by omega, by omega⟩ (fun c1 => ?_) (fun c1 => ?_)
    · obtain ⟨hw1, hw2, hs1, hs2⟩ := refT_0 (by assumption)
      obtain ⟨u, rfl⟩ : ∃ u : Nat, w = u := ⟨w.toNat, by omega⟩
      have hu : 1 ≤ u ∧ u ≤ 10 := ⟨by omega, by omega⟩
      have hdv : (sN σ i - 1) / u ≤ sN σ i - 1 := Nat.div_le_self _ _
      have hdw : (0 : Int) ≤ (((sN σ i - 1) / u : Nat) : Int) := Int.natCast_nonneg _
      refine am_aload_n (q := 26) C dX10_check_25 rfl rfl ?_
      refine am_getR (q := 29) C fb_X10_59 dX10_check_26 rfl rfl kk_0 (show 0 < 215 by decide) kr_0_7 ?_
      refine am_iload_n (q := 30) C dX10_check_29 rfl rfl ?_
      refine am_iconst (q := 31) (v := iZ 1) C dX10_check_30 rfl rfl ?_
      refine am_isubZ (q := 32) C dX10_check_31 rfl ?_
      refine am_intE (y := (iZ ((u - 1 : Nat) : Int))) (congrArg iZ (by omega)) ?_
      refine am_aload_n (q := 33) C dX10_check_32 rfl rfl ?_
      refine am_iload_n (q := 34) C dX10_check_33 rfl rfl ?_
      refine am_callN (q := 37) (As := [.int (iZ (u : Int))]) (rest := [.int (iZ ((u - 1 : Nat) : Int)), .ref 176]) C mb_X7_lastUp im_X7_lastUp se_X7_lastUp mn_X10_282 cb_7 (isS_c i hi).1 (show 183 + 2 * i < 215 by omega) dX10_check_34 rfl (sp_X7_lastUp hi (atC_sh hC hi) (w := u) hu) rfl rfl ⟨by decide, by decide⟩ ⟨Nat.le_refl _, Nat.le_refl _⟩ (Nat.le_of_ble_eq_true rfl) (am_rie ?_)
      refine am_aload_n (q := 38) C dX10_check_37 rfl rfl ?_
      refine am_getR (q := 41) C fb_X10_14 dX10_check_38 rfl rfl kk_0 (show 0 < 215 by decide) kr_0_0 ?_
      refine am_callN (q := 44) (As := [.int (iZ ((u - 1 : Nat) : Int)), .int (iZ (((sN σ i - 1) / u : Nat) : Int)), .ref 1]) (rest := []) C mb_X9_reach im_X9_reach se_X9_reach mn_X10_170 cb_9 kk_176 (show 176 < 215 by decide) dX10_check_41 rfl (sp_X9_reach hC.1 hC.2.1 hC.2.2.1.2.2 (x := ((u - 1 : Nat) : Int)) (y := (((sN σ i - 1) / u : Nat) : Int)) (by omega) (by omega)) rfl rfl ⟨by decide, by decide⟩ ⟨Nat.le_refl _, Nat.le_refl _⟩ (Nat.le_of_ble_eq_true rfl) (am_rv (fun w' hw' => ?_))
      obtain ⟨I1, J1, rfl, ⟨kx, ky, hkn, hT1, hkx, hky⟩, hI1, hJ1⟩ := hw'
      have hC1 : atC I1 J1 σ := atC_ways hC ⟨kx, ky, hkn, hT1⟩ hI1 hJ1
      have hfr : frC I J I1 J1 := fun z hz => ⟨hI1 z (by omega), hJ1 z (by omega)⟩
      have hb : ∀ k, k < sN σ i → ((k % u : Nat) : Int) ≤ kx ∧ ((k / u : Nat) : Int) ≤ ky := fun k hk => by
        have h1 := Nat.mod_lt k (show u > 0 by omega)
        have h2 : k / u ≤ (sN σ i - 1) / u := Nat.div_le_div_right (by omega)
        omega
      obtain ⟨b1, b2, b3, b4, b5, b6⟩ := atC_sh hC1 hi
      refine am_iconst (q := 45) (v := iZ 0) C dX10_check_44 rfl rfl ?_
      refine am_istore (q := 47) (L' := [some (.ref 0), some (.int (iZ (i : Int))), some (.int (iZ (u : Int))), some (.ref (183 + 2 * i)), some (.int (iZ (refT (sS σ i) (u : Int)))), some (.int (iZ 0))]) C dX10_check_45 rfl (by decide) rfl rfl ?_
      have l1 : ∀ (fuel : Nat) (k : Nat), (k ≤ sN σ i) → (fstN (chkB σ i u) (sN σ i - k) k = fstN (chkB σ i u) (sN σ i) 0) → (sN σ i - k) < fuel → am_A G mX10_check X (am_rm 6 0 0) 47 [some (.ref 0), some (.int (iZ (i : Int))), some (.int (iZ (u : Int))), some (.ref (183 + 2 * i)), none, some (.int (iZ (k : Int)))] [] (215, kK, kR, I1, J1) 0 0 := by
        intro fuel
        induction fuel with
        | zero => intro k hk hq hf; exact absurd hf (Nat.not_lt_zero _)
        | succ fuel ih =>
          intro k hk hq hf
          refine am_iload (q := 49) C dX10_check_47 rfl rfl ?_
          refine am_aload_n (q := 50) C dX10_check_49 rfl rfl ?_
          refine am_getIe (q := 53) (v := (iZ (sN σ i : Int))) C fb_X10_286 dX10_check_50 rfl rfl (isS_c i hi).1 (show 183 + 2 * i < 215 by omega) b2 ?_
          refine am_icmpZ_ge (q := 56) (tgt := 90) C dX10_check_53 (by decide) rfl ⟨by omega, by omega⟩ ⟨by omega, by omega⟩ (fun e1 => ?_) (fun e1 => ?_)
          · refine am_bipush (q := 92) (v := iZ (-3)) C dX10_check_90 rfl rfl ?_
            refine am_iret C T dX10_check_92 rfl (Nat.le_refl _) (Nat.le_refl _) ⟨_, rfl, ?_⟩
            have e1 : checkA σ (i : Int) (u : Int) = -3 := by
              unfold checkA
              simp only [Int.toNat_natCast]
              rw [if_pos (by omega), if_pos (by assumption), ← hq]
              rw [show sN σ i - k = 0 by omega]; rfl
            rw [e1]
            exact ⟨rfl, _, _, rfl, hC1, hfr⟩
          · refine am_iload (q := 58) C dX10_check_56 rfl rfl ?_
            refine am_bipush (q := 60) (v := iZ 60) C dX10_check_58 rfl rfl ?_
            refine am_icmpZ_ge (q := 63) (tgt := 90) C dX10_check_60 (by decide) rfl ⟨by omega, by omega⟩ ⟨by omega, by omega⟩ (fun e2 => ?_) (fun e2 => ?_)
            · refine am_bipush (q := 92) (v := iZ (-3)) C dX10_check_90 rfl rfl ?_
              refine am_iret C T dX10_check_92 rfl (Nat.le_refl _) (Nat.le_refl _) ⟨_, rfl, ?_⟩
              have e1 : checkA σ (i : Int) (u : Int) = -3 := by
                unfold checkA
                simp only [Int.toNat_natCast]
                rw [if_pos (by omega), if_pos (by assumption), ← hq]
                rw [show sN σ i - k = 0 by omega]; rfl
              rw [e1]
              exact ⟨rfl, _, _, rfl, hC1, hfr⟩
            · refine am_aload_n (q := 64) C dX10_check_63 rfl rfl ?_
              refine am_getR (q := 67) C fb_X10_271 dX10_check_64 rfl rfl (isS_c i hi).1 (show 183 + 2 * i < 215 by omega) (isS_c i hi).2.2.1 ?_
              refine am_iload (q := 69) C dX10_check_67 rfl rfl ?_
              refine am_laloadZ (q := 70) k C dX10_check_69 rfl (isS_c i hi).2.1 (show 184 + 2 * i < 215 by omega) rfl (by omega) (by decide) ?_
              refine am_longE (y := (sF σ i k)) (b6 k (by omega)) ?_
              refine am_aload_n (q := 71) C dX10_check_70 rfl rfl ?_
              refine am_iload (q := 73) C dX10_check_71 rfl rfl ?_
              refine am_iload_n (q := 74) C dX10_check_73 rfl rfl ?_
              refine am_callV (q := 77) (As := [.int (iZ (k : Int)), .int (iZ (u : Int))]) (rest := [.long (sF σ i k)]) C mb_X10_waysAtPlace im_X10_waysAtPlace se_X10_waysAtPlace ml_X10_287 cb_10 kk_0 (show 0 < 215 by decide) dX10_check_74 rfl (sp_X10_waysAtPlace hkn hT1 (k := k) (u := u) hu (by omega) (hb k (by omega)).1 (hb k (by omega)).2) rfl rfl ⟨by decide, by decide⟩ ⟨Nat.le_refl _, Nat.le_refl _⟩ (Nat.le_of_ble_eq_true rfl) (am_rle ?_)
              refine am_lcmp (q := 78) C dX10_check_77 rfl ?_
              refine am_if_eq (q := 81) (tgt := 84) C dX10_check_78 (by decide) rfl (fun e3 => ?_) (fun e3 => ?_)
              · have e3 := (lg_cmp_eq (sF σ i k) (lN (Wy σ.1 (pm σ.1) (k % u) (k / u)))).mp e3
                refine am_iincZ (q := 87) (L' := [some (.ref 0), some (.int (iZ (i : Int))), some (.int (iZ (u : Int))), some (.ref (183 + 2 * i)), none, some (.int (iZ ((k + 1 : Nat) : Int)))]) C dX10_check_84 rfl rfl (by omega) (by decide) rfl rfl ?_
                refine am_goto (q := 47) C dX10_check_87 (by decide) ?_
                refine ih (k + 1) (by omega) ?_ (by omega)
                rw [← hq, show sN σ i - k = (sN σ i - (k + 1)) + 1 by omega]
                have h9 : ¬ chkB σ i u k = true := fun z => absurd (by assumption) (of_decide_eq_true z)
                exact (if_neg h9).symm
              · have e3 : ¬ (_) := fun z => e3 ((lg_cmp_eq (sF σ i k) (lN (Wy σ.1 (pm σ.1) (k % u) (k / u)))).mpr z)
                refine am_iload (q := 83) C dX10_check_81 rfl rfl ?_
                refine am_iret C T dX10_check_83 rfl (Nat.le_refl _) (Nat.le_refl _) ⟨_, rfl, ?_⟩
                have e1 : checkA σ (i : Int) (u : Int) = (k : Int) := by
                  unfold checkA
                  simp only [Int.toNat_natCast]
                  rw [if_pos (by omega), if_pos (by assumption), ← hq]
                  rw [show sN σ i - k = (sN σ i - (k + 1)) + 1 by omega]
                  exact if_pos (decide_eq_true (by assumption))
                rw [e1]
                exact ⟨rfl, _, _, rfl, hC1, hfr⟩
      refine am_wkA (L1 := [some (.ref 0), some (.int (iZ (i : Int))), some (.int (iZ (u : Int))), some (.ref (183 + 2 * i)), none, some (.int (iZ 0))]) ⟨rfl, ⟨rfl, ⟨rfl, ⟨rfl, ⟨rfl, trivial⟩⟩⟩⟩⟩ ?_
      exact l1 (sN σ i + 1) 0 (by omega) rfl (by omega)
    · refine am_iload (q := 24) C dX10_check_22 rfl rfl ?_
      refine am_iret C T dX10_check_24 rfl (Nat.le_refl _) (Nat.le_refl _) ⟨_, rfl, ?_⟩
      have e1 : checkA σ (i : Int) w = refT (sS σ i) w := by
        unfold checkA
        try simp only [Int.toNat_natCast]
        first | (rw [if_pos (by omega), if_neg (by omega)]; done)
      rw [e1]
      exact ⟨rfl, _, _, rfl, hC, frC_refl⟩
  · refine am_aload_n (q := 1) C dX10_check_0 rfl rfl ?_
    refine am_iload_n (q := 2) C dX10_check_1 rfl rfl ?_
    refine am_callV (q := 5) (As := [.int (iZ p)]) (rest := []) C mb_X10_sheetAt im_X10_sheetAt se_X10_sheetAt ml_X10_257 cb_10 kk_0 (show 0 < 215 by decide) dX10_check_2 rfl (sp_sheetAtO hp h0) rfl rfl ⟨by decide, by decide⟩ ⟨Nat.le_refl _, Nat.le_refl _⟩ (Nat.le_of_ble_eq_true rfl) (am_rre ?_)
    show am_A _ _ _ _ _ _ (.null :: _) _ _ _
    refine am_astore_nN (q := 6) (L' := [some (.ref 0), some (.int (iZ p)), some (.int (iZ w)), some (.null), none, none]) C dX10_check_5 rfl (by decide) rfl rfl ?_
    refine am_aload_nN (q := 7) C dX10_check_6 rfl rfl ?_
    refine am_iload_n (q := 8) C dX10_check_7 rfl rfl ?_
    refine am_callS (q := 11) (As := [.null, .int (iZ w)]) (rest := []) C mb_X10_tableRefusal st_X10_tableRefusal ml_X10_278 dX10_check_8 rfl sp_X10_tableRefusalN rfl rfl ⟨by decide, by decide⟩ ⟨Nat.le_refl _, Nat.le_refl _⟩ (Nat.le_of_ble_eq_true rfl) (am_rie ?_)
    refine am_istore (q := 13) (L' := [some (.ref 0), some (.int (iZ p)), some (.int (iZ w)), some (.null), some (.int (iZ (-1))), none]) C dX10_check_11 rfl (by decide) rfl rfl ?_
    refine am_aload_nN (q := 14) C dX10_check_13 rfl rfl ?_
    refine am_ifnullN (q := 22) C dX10_check_14 (by decide) ?_
    refine am_iload (q := 24) C dX10_check_22 rfl rfl ?_
    refine am_iret C T dX10_check_24 rfl (Nat.le_refl _) (Nat.le_refl _) ⟨_, rfl, ?_⟩
    have e1 : checkA σ p w = (-1) := by
      unfold checkA
      try simp only [Int.toNat_natCast]
      first | (rw [if_neg (by omega)]; done)
    rw [e1]
    exact ⟨rfl, _, _, rfl, hC, frC_refl⟩
