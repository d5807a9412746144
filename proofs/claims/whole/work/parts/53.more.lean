variable {G : am_G} {I : Nat → Nat → Int32} {J : Nat → Nat → Int64}
/-- a row tells all free ways, if a part (a, b) came -/
def isTab (t : PT) (f : Nat → Int64) (w a b : Nat) : Nat → Bool
  | 0 => true
  | k + 1 => isTab t f w a b k && decide (f k = geoF (Fr t (pm t)) a b (k % w) (k / w))
theorem isTab_no {t : PT} {f : Nat → Int64} {w a b k : Nat} (h : ¬ f k = geoF (Fr t (pm t)) a b (k % w) (k / w)) : ∀ n, k < n → isTab t f w a b n = false
  | 0, h0 => absurd h0 (Nat.not_lt_zero _)
  | n + 1, h0 => by
    by_cases e : k = n
    · show (isTab t f w a b n && decide (f n = geoF (Fr t (pm t)) a b (n % w) (n / w))) = false
      rw [← e, decide_eq_false h, Bool.and_false]
    · show (isTab t f w a b n && _) = false
      rw [isTab_no h n (by omega)]; rfl
/-- of the first steps: how many fit; the first that fits -/
def moN (f : Nat → Bool) : Nat → Nat
  | 0 => 0
  | k + 1 => moN f k + if 1 ≤ k ∧ f k = true then 1 else 0
def moF (f : Nat → Bool) : Nat → Int
  | 0 => -3
  | k + 1 => if (1 ≤ k ∧ f k = true) ∧ moN f k = 0 then 10 * ((k / 5 : Nat) : Int) + ((k % 5 : Nat) : Int) else moF f k
theorem moN_le (f : Nat → Bool) : ∀ k, moN f k ≤ k
  | 0 => Nat.le_refl _
  | k + 1 => by
    have := moN_le f k
    show moN f k + (if _ then _ else _) ≤ _
    split <;> omega
theorem moN_1 (f : Nat → Bool) (k : Nat) : moN f (k + 1) = moN f k + if 1 ≤ k ∧ f k = true then 1 else 0 := rfl
theorem moF_1 (f : Nat → Bool) (k : Nat) : moF f (k + 1) = if (1 ≤ k ∧ f k = true) ∧ moN f k = 0 then 10 * ((k / 5 : Nat) : Int) + ((k % 5 : Nat) : Int) else moF f k := rfl
theorem moF_rg (f : Nat → Bool) : ∀ k, k ≤ 25 → -3 ≤ moF f k ∧ moF f k ≤ 100
  | 0, _ => ⟨by show (-3 : Int) ≤ -3; omega, by show (-3 : Int) ≤ 100; omega⟩
  | k + 1, h => by
    have := moF_rg f k (by omega)
    rw [moF_1]
    split <;> omega
def morB (σ : SG) (i w k : Nat) : Bool := isTab σ.1 (sF σ i) w (k / 5) (k % 5) (sN σ i)
def moreA (σ : SG) (p w k : Int) : Int := if 0 ≤ k ∧ k ≤ 1 then (if 0 ≤ p ∧ p < 4 then (if refT (sS σ p.toNat) w = 0 then (if k = 0 then (moN (morB σ p.toNat w.toNat) 25 : Int) else moF (morB σ p.toNat w.toNat) 25) else refT (sS σ p.toNat) w) else -1) else -1
set_option maxRecDepth 4000 in
theorem sp_X10_isTableWith {i : Nat} (hi : i < 4) {s : Int} {n : Nat} {f : Nat → Int64} (hA : atS i I J s n f) {t : PT} {kx ky : Int} (hkn : knF I kx ky) (hT : tabF J kx ky (Fr t (pm t))) {u a b : Nat} (hu : 1 ≤ u ∧ u ≤ 10) (ha : a ≤ 4) (hb : b ≤ 4) (hab : 1 ≤ a + b) (hq : ∀ k, k < n → ((k % u : Nat) : Int) ≤ kx ∧ ((k / u : Nat) : Int) ≤ ky) : am_S G mX10_isTableWith 3 0 0 [.ref 0, .ref (183 + 2 * i), .int (iZ (u : Int)), .int (iZ (a : Int)), .int (iZ (b : Int))] (215, kK, kR, I, J) (am_fi (if isTab t f u a b n = true then 1 else 0) (215, kK, kR, I, J)) := by
  obtain ⟨a1, a2, a3, a4, a5, a6⟩ := hA
  refine am_spec (plainFor_of_name (by decide +kernel)) (Nat.le_of_ble_eq_true rfl) (L := [some (.ref 0), some (.ref (183 + 2 * i)), some (.int (iZ (u : Int))), some (.int (iZ (a : Int))), some (.int (iZ (b : Int))), none]) rfl (fun X C T => ?_)
  have lp : ∀ (fuel : Nat) (k : Nat), (k ≤ n) → (isTab t f u a b k = true) → (n - k) < fuel → am_A G mX10_isTableWith X (am_rm 3 0 0) 10 [some (.ref 0), some (.ref (183 + 2 * i)), some (.int (iZ (u : Int))), some (.int (iZ (a : Int))), some (.int (iZ (b : Int))), some (.int (iZ (k : Int)))] [] (215, kK, kR, I, J) 0 0 := by
    intro fuel
    induction fuel with
    | zero => intro k hk hz hf; exact absurd hf (Nat.not_lt_zero _)
    | succ fuel ih =>
      intro k hk hz hf
      have h1 := Nat.mod_lt k (show u > 0 by omega)
      have h2 : k / u ≤ k := Nat.div_le_self _ _
      have h3 : (0 : Int) ≤ ((k / u : Nat) : Int) := Int.natCast_nonneg _
      refine am_iload (q := 12) C dX10_isTableWith_10 rfl rfl ?_
      refine am_aload_n (q := 13) C dX10_isTableWith_12 rfl rfl ?_
      refine am_getIe (q := 16) (v := (iZ (n : Int))) C fb_X10_286 dX10_isTableWith_13 rfl rfl (isS_c i hi).1 (show 183 + 2 * i < 215 by omega) a2 ?_
      refine am_icmpZ_ge (q := 19) (tgt := 63) C dX10_isTableWith_16 (by decide) rfl ⟨by omega, by omega⟩ ⟨by omega, by omega⟩ (fun c1 => ?_) (fun c1 => ?_)
      · refine am_iconst (q := 64) (v := iZ 1) C dX10_isTableWith_63 rfl rfl ?_
        refine am_zretB (b := true) C T dX10_isTableWith_64 rfl (Nat.le_refl _) (Nat.le_refl _) rfl ⟨_, rfl, ?_⟩
        rw [show k = n by omega] at hz
        exact ⟨(if_pos hz).symm, rfl⟩
      · refine am_iload (q := 21) C dX10_isTableWith_19 rfl rfl ?_
        refine am_bipush (q := 23) (v := iZ 60) C dX10_isTableWith_21 rfl rfl ?_
        refine am_icmpZ_ge (q := 26) (tgt := 63) C dX10_isTableWith_23 (by decide) rfl ⟨by omega, by omega⟩ ⟨by omega, by omega⟩ (fun c2 => ?_) (fun c2 => ?_)
        · refine am_iconst (q := 64) (v := iZ 1) C dX10_isTableWith_63 rfl rfl ?_
          refine am_zretB (b := true) C T dX10_isTableWith_64 rfl (Nat.le_refl _) (Nat.le_refl _) rfl ⟨_, rfl, ?_⟩
          rw [show k = n by omega] at hz
          exact ⟨(if_pos hz).symm, rfl⟩
        · refine am_aload_n (q := 27) C dX10_isTableWith_26 rfl rfl ?_
          refine am_getR (q := 30) C fb_X10_271 dX10_isTableWith_27 rfl rfl (isS_c i hi).1 (show 183 + 2 * i < 215 by omega) (isS_c i hi).2.2.1 ?_
          refine am_iload (q := 32) C dX10_isTableWith_30 rfl rfl ?_
          refine am_laloadZ (q := 33) k C dX10_isTableWith_32 rfl (isS_c i hi).2.1 (show 184 + 2 * i < 215 by omega) rfl (by omega) (by decide) ?_
          refine am_longE (y := (f k)) (a6 k (by omega)) ?_
          refine am_aload_n (q := 34) C dX10_isTableWith_33 rfl rfl ?_
          refine am_getR (q := 37) C fb_X10_52 dX10_isTableWith_34 rfl rfl kk_0 (show 0 < 215 by decide) kr_0_6 ?_
          refine am_iload (q := 39) C dX10_isTableWith_37 rfl rfl ?_
          refine am_iload_n (q := 40) C dX10_isTableWith_39 rfl rfl ?_
          refine am_iremZ (q := 41) C dX10_isTableWith_40 rfl ⟨by omega, by omega⟩ ⟨by omega, by omega⟩ (by omega) (by omega) ?_
          refine am_intE (y := (iZ ((k % u : Nat) : Int))) (congrArg iZ rfl) ?_
          refine am_iload (q := 43) C dX10_isTableWith_41 rfl rfl ?_
          refine am_iload_n (q := 44) C dX10_isTableWith_43 rfl rfl ?_
          refine am_idivZ (q := 45) C dX10_isTableWith_44 rfl ⟨by omega, by omega⟩ ⟨by omega, by omega⟩ (by omega) (by omega) ?_
          refine am_intE (y := (iZ ((k / u : Nat) : Int))) (congrArg iZ rfl) ?_
          refine am_iload_n (q := 46) C dX10_isTableWith_45 rfl rfl ?_
          refine am_iload (q := 48) C dX10_isTableWith_46 rfl rfl ?_
          refine am_callN (q := 51) (As := [.int (iZ ((k % u : Nat) : Int)), .int (iZ ((k / u : Nat) : Int)), .int (iZ (a : Int)), .int (iZ (b : Int))]) (rest := [.long (f k)]) C mb_X4_atWith im_X4_atWith se_X4_atWith mn_X10_332 cb_4 kk_174 (show 174 < 215 by decide) dX10_isTableWith_48 rfl (sp_X4_atWith hkn hT (x := k % u) (y := k / u) (hq k (by omega)).1 (hq k (by omega)).2 (by omega) (by omega) ha hb hab) rfl rfl ⟨by decide, by decide⟩ ⟨Nat.le_refl _, Nat.le_refl _⟩ (Nat.le_of_ble_eq_true rfl) (am_rle ?_)
          refine am_lcmp (q := 52) C dX10_isTableWith_51 rfl ?_
          refine am_if_eq (q := 55) (tgt := 57) C dX10_isTableWith_52 (by decide) rfl (fun c3 => ?_) (fun c3 => ?_)
          · have c3 := (lg_cmp_eq (f k) (geoF (Fr t (pm t)) a b (k % u) (k / u))).mp c3
            refine am_iincZ (q := 60) (L' := [some (.ref 0), some (.ref (183 + 2 * i)), some (.int (iZ (u : Int))), some (.int (iZ (a : Int))), some (.int (iZ (b : Int))), some (.int (iZ ((k + 1 : Nat) : Int)))]) C dX10_isTableWith_57 rfl rfl (by omega) (by decide) rfl rfl ?_
            refine am_goto (q := 10) C dX10_isTableWith_60 (by decide) ?_
            refine ih (k + 1) (by omega) ?_ (by omega)
            show (isTab t f u a b k && decide (_ = _)) = true
            rw [hz, decide_eq_true (by assumption)]; rfl
          · have c3 : ¬ (_) := fun z => c3 ((lg_cmp_eq (f k) (geoF (Fr t (pm t)) a b (k % u) (k / u))).mpr z)
            refine am_iconst (q := 56) (v := iZ 0) C dX10_isTableWith_55 rfl rfl ?_
            refine am_zretB (b := false) C T dX10_isTableWith_56 rfl (Nat.le_refl _) (Nat.le_refl _) rfl ⟨_, rfl, ?_⟩
            have h9 := isTab_no (t := t) (f := f) (w := u) (a := a) (b := b) (k := k) (by assumption) n (by omega)
            rw [h9]
            exact ⟨rfl, rfl⟩
  refine am_iload_n (q := 1) C dX10_isTableWith_0 rfl rfl ?_
  refine am_iconst (q := 2) (v := iZ 1) C dX10_isTableWith_1 rfl rfl ?_
  refine am_icmpZ_ge (q := 5) (tgt := 7) C dX10_isTableWith_2 (by decide) rfl ⟨by omega, by omega⟩ ⟨by omega, by omega⟩ (fun c4 => ?_) (fun c4 => ?_)
  · refine am_iconst (q := 8) (v := iZ 0) C dX10_isTableWith_7 rfl rfl ?_
    refine am_istore (q := 10) (L' := [some (.ref 0), some (.ref (183 + 2 * i)), some (.int (iZ (u : Int))), some (.int (iZ (a : Int))), some (.int (iZ (b : Int))), some (.int (iZ 0))]) C dX10_isTableWith_8 rfl (by decide) rfl rfl ?_
    exact lp (n + 1) 0 (by omega) rfl (by omega)
  · refine am_iconst (q := 6) (v := iZ 0) C dX10_isTableWith_5 rfl rfl ?_
    refine am_zretB (b := false) C T dX10_isTableWith_6 rfl (Nat.le_refl _) (Nat.le_refl _) rfl ⟨_, rfl, ?_⟩
    exfalso; omega
set_option maxRecDepth 4000 in
theorem sp_X10_more {σ : SG} (hC : atC I J σ) {p w k : Int} (hp : rg p) (hw : rg w) (hk : rg k) : am_S G mX10_more 6 0 0 [.ref 0, .int (iZ p), .int (iZ w), .int (iZ k)] (215, kK, kR, I, J) (am_qi (fun v w' => v = iZ (moreA σ p w k) ∧ ∃ (I' : Nat → Nat → Int32) (J' : Nat → Nat → Int64), w' = (215, kK, kR, I', J') ∧ atC I' J' (σ) ∧ frC I J I' J')) := by
  refine am_spec (plainFor_of_name (by decide +kernel)) (Nat.le_of_ble_eq_true rfl) (L := [some (.ref 0), some (.int (iZ p)), some (.int (iZ w)), some (.int (iZ k)), none, none, none, none, none, none]) rfl (fun X C T => ?_)
  by_cases h0 : 0 ≤ p ∧ p < 4
  · obtain ⟨i, rfl⟩ : ∃ q : Nat, p = q := ⟨p.toNat, by omega⟩
    have hi : i < 4 := by omega
    have hA := atC_sh hC hi
    obtain ⟨a1, a2, a3, a4, a5, a6⟩ := hA
    refine am_iload_n (q := 1) C dX10_more_0 rfl rfl ?_
    refine am_ifZ_lt (q := 4) (tgt := 9) C dX10_more_1 (by decide) rfl hk (fun c1 => ?_) (fun c1 => ?_)
    · refine am_iconst (q := 10) (v := iZ (-1)) C dX10_more_9 rfl rfl ?_
      refine am_iret C T dX10_more_10 rfl (Nat.le_refl _) (Nat.le_refl _) ⟨_, rfl, ?_⟩
      have e1 : moreA σ (i : Int) w k = (-1) := by
        unfold moreA
        try simp only [Int.toNat_natCast]
        first | (rw [if_neg (by omega)]; done) | (rw [if_pos (by omega), if_pos (by omega), if_neg (by omega)]; done)
      rw [e1]
      exact ⟨rfl, _, _, rfl, hC, frC_refl⟩
    · refine am_iload_n (q := 5) C dX10_more_4 rfl rfl ?_
      refine am_iconst (q := 6) (v := iZ 1) C dX10_more_5 rfl rfl ?_
      refine am_icmpZ_le (q := 9) (tgt := 11) C dX10_more_6 (by decide) rfl hk ⟨by omega, by omega⟩ (fun c2 => ?_) (fun c2 => ?_)
      · refine am_aload_n (q := 12) C dX10_more_11 rfl rfl ?_
        refine am_iload_n (q := 13) C dX10_more_12 rfl rfl ?_
        refine am_callV (q := 16) (As := [.int (iZ (i : Int))]) (rest := []) C mb_X10_sheetAt im_X10_sheetAt se_X10_sheetAt ml_X10_257 cb_10 kk_0 (show 0 < 215 by decide) dX10_more_13 rfl (sp_sheetAtI hi) rfl rfl ⟨by decide, by decide⟩ ⟨Nat.le_refl _, Nat.le_refl _⟩ (Nat.le_of_ble_eq_true rfl) (am_rre ?_)
        show am_A _ _ _ _ _ _ (.ref (183 + 2 * i) :: _) _ _ _
        refine am_astore (q := 18) (L' := [some (.ref 0), some (.int (iZ (i : Int))), some (.int (iZ w)), some (.int (iZ k)), some (.ref (183 + 2 * i)), none, none, none, none, none]) C dX10_more_16 rfl (by decide) rfl rfl ?_
        refine am_aload (q := 20) C dX10_more_18 rfl rfl ?_
        refine am_iload_n (q := 21) C dX10_more_20 rfl rfl ?_
        have hrf := refT_rg (sS σ i) w
        refine am_callS (q := 24) (As := [.ref (183 + 2 * i), .int (iZ w)]) (rest := []) C mb_X10_tableRefusal st_X10_tableRefusal ml_X10_278 dX10_more_21 rfl (sp_X10_tableRefusal hi (atC_sh hC hi) hw) rfl rfl ⟨by decide, by decide⟩ ⟨Nat.le_refl _, Nat.le_refl _⟩ (Nat.le_of_ble_eq_true rfl) (am_rie ?_)
        refine am_istore (q := 26) (L' := [some (.ref 0), some (.int (iZ (i : Int))), some (.int (iZ w)), some (.int (iZ k)), some (.ref (183 + 2 * i)), some (.int (iZ (refT (sS σ i) w))), none, none, none, none]) C dX10_more_24 rfl (by decide) rfl rfl ?_
        refine am_aload (q := 28) C dX10_more_26 rfl rfl ?_
        refine am_ifnull (q := 31) C dX10_more_28 rfl ?_
        refine am_iload (q := 33) C dX10_more_31 rfl rfl ?_
        refine am_ifZ_eq (q := 36) (tgt := 39) C dX10_more_33 (by decide) rfl ⟨by omega, by omega⟩ (fun c3 => ?_) (fun c3 => ?_)
        · obtain ⟨hw1, hw2, hs1, hs2⟩ := refT_0 (by assumption)
          obtain ⟨u, rfl⟩ : ∃ u : Nat, w = u := ⟨w.toNat, by omega⟩
          have hu : 1 ≤ u ∧ u ≤ 10 := ⟨by omega, by omega⟩
          have hdv : (sN σ i - 1) / u ≤ sN σ i - 1 := Nat.div_le_self _ _
          have hdw : (0 : Int) ≤ (((sN σ i - 1) / u : Nat) : Int) := Int.natCast_nonneg _
          refine am_aload_n (q := 40) C dX10_more_39 rfl rfl ?_
          refine am_getR (q := 43) C fb_X10_52 dX10_more_40 rfl rfl kk_0 (show 0 < 215 by decide) kr_0_6 ?_
          refine am_iload_n (q := 44) C dX10_more_43 rfl rfl ?_
          refine am_iconst (q := 45) (v := iZ 1) C dX10_more_44 rfl rfl ?_
          refine am_isubZ (q := 46) C dX10_more_45 rfl ?_
          refine am_intE (y := (iZ ((u - 1 : Nat) : Int))) (congrArg iZ (by omega)) ?_
          refine am_aload (q := 48) C dX10_more_46 rfl rfl ?_
          refine am_iload_n (q := 49) C dX10_more_48 rfl rfl ?_
          refine am_callN (q := 52) (As := [.int (iZ (u : Int))]) (rest := [.int (iZ ((u - 1 : Nat) : Int)), .ref 174]) C mb_X7_lastUp im_X7_lastUp se_X7_lastUp mn_X10_282 cb_7 (isS_c i hi).1 (show 183 + 2 * i < 215 by omega) dX10_more_49 rfl (sp_X7_lastUp hi (atC_sh hC hi) (w := u) hu) rfl rfl ⟨by decide, by decide⟩ ⟨Nat.le_refl _, Nat.le_refl _⟩ (Nat.le_of_ble_eq_true rfl) (am_rie ?_)
          refine am_aload_n (q := 53) C dX10_more_52 rfl rfl ?_
          refine am_getR (q := 56) C fb_X10_14 dX10_more_53 rfl rfl kk_0 (show 0 < 215 by decide) kr_0_0 ?_
          refine am_callN (q := 59) (As := [.int (iZ ((u - 1 : Nat) : Int)), .int (iZ (((sN σ i - 1) / u : Nat) : Int)), .ref 1]) (rest := []) C mb_X4_reach im_X4_reach se_X4_reach mn_X10_178 cb_4 kk_174 (show 174 < 215 by decide) dX10_more_56 rfl (sp_X4_reach hC.1 hC.2.1 hC.2.2.1.2.1 (x := ((u - 1 : Nat) : Int)) (y := (((sN σ i - 1) / u : Nat) : Int)) (by omega) (by omega)) rfl rfl ⟨by decide, by decide⟩ ⟨Nat.le_refl _, Nat.le_refl _⟩ (Nat.le_of_ble_eq_true rfl) (am_rv (fun w' hw' => ?_))
          obtain ⟨I1, J1, rfl, ⟨kx, ky, hkn, hT1, hkx, hky⟩, hI1, hJ1⟩ := hw'
          have hC1 : atC I1 J1 σ := atC_free hC ⟨kx, ky, hkn, hT1⟩ hI1 hJ1
          have hfr : frC I J I1 J1 := fun z hz => ⟨hI1 z (by omega), hJ1 z (by omega)⟩
          have hb : ∀ k, k < sN σ i → ((k % u : Nat) : Int) ≤ kx ∧ ((k / u : Nat) : Int) ≤ ky := fun k hk => by
            have h1 := Nat.mod_lt k (show u > 0 by omega)
            have h2 : k / u ≤ (sN σ i - 1) / u := Nat.div_le_div_right (by omega)
            omega
          refine am_iconst (q := 60) (v := iZ 0) C dX10_more_59 rfl rfl ?_
          refine am_istore (q := 62) (L' := [some (.ref 0), some (.int (iZ (i : Int))), some (.int (iZ (u : Int))), some (.int (iZ k)), some (.ref (183 + 2 * i)), some (.int (iZ (refT (sS σ i) (u : Int)))), some (.int (iZ 0)), none, none, none]) C dX10_more_60 rfl (by decide) rfl rfl ?_
          refine am_bipush (q := 64) (v := iZ (-3)) C dX10_more_62 rfl rfl ?_
          refine am_istore (q := 66) (L' := [some (.ref 0), some (.int (iZ (i : Int))), some (.int (iZ (u : Int))), some (.int (iZ k)), some (.ref (183 + 2 * i)), some (.int (iZ (refT (sS σ i) (u : Int)))), some (.int (iZ 0)), some (.int (iZ (-3))), none, none]) C dX10_more_64 rfl (by decide) rfl rfl ?_
          refine am_iconst (q := 67) (v := iZ 0) C dX10_more_66 rfl rfl ?_
          refine am_istore (q := 69) (L' := [some (.ref 0), some (.int (iZ (i : Int))), some (.int (iZ (u : Int))), some (.int (iZ k)), some (.ref (183 + 2 * i)), some (.int (iZ (refT (sS σ i) (u : Int)))), some (.int (iZ 0)), some (.int (iZ (-3))), some (.int (iZ 0)), none]) C dX10_more_67 rfl (by decide) rfl rfl ?_
          have li : ∀ (fuel : Nat) (a b : Nat), (a ≤ 4) → (b ≤ 5) → (6 - b) < fuel → (am_A G mX10_more X (am_rm 6 0 0) 138 [some (.ref 0), some (.int (iZ (i : Int))), some (.int (iZ (u : Int))), some (.int (iZ k)), some (.ref (183 + 2 * i)), none, some (.int (iZ (moN (morB σ i u) (5 * (a + 1)) : Int))), some (.int (iZ (moF (morB σ i u) (5 * (a + 1))))), some (.int (iZ (a : Int))), none] [] (215, kK, kR, I1, J1) 0 0) → am_A G mX10_more X (am_rm 6 0 0) 78 [some (.ref 0), some (.int (iZ (i : Int))), some (.int (iZ (u : Int))), some (.int (iZ k)), some (.ref (183 + 2 * i)), none, some (.int (iZ (moN (morB σ i u) (5 * a + b) : Int))), some (.int (iZ (moF (morB σ i u) (5 * a + b)))), some (.int (iZ (a : Int))), some (.int (iZ (b : Int)))] [] (215, kK, kR, I1, J1) 0 0 := by
            intro fuel
            induction fuel with
            | zero => intro a b ha hb2 hfu hk9; exact absurd hfu (Nat.not_lt_zero _)
            | succ fuel ih =>
              intro a b ha hb2 hfu hk9
              have hn1 := moN_le (morB σ i u) (5 * a + b)
              have hn2 := moF_rg (morB σ i u) (5 * a + b) (by omega)
              refine am_iload (q := 80) C dX10_more_78 rfl rfl ?_
              refine am_iconst (q := 81) (v := iZ 4) C dX10_more_80 rfl rfl ?_
              refine am_icmpZ_gt (q := 84) (tgt := 138) C dX10_more_81 (by decide) rfl ⟨by omega, by omega⟩ ⟨by omega, by omega⟩ (fun e1 => ?_) (fun e1 => ?_)
              · refine am_wkA (L1 := [some (.ref 0), some (.int (iZ (i : Int))), some (.int (iZ (u : Int))), some (.int (iZ k)), some (.ref (183 + 2 * i)), none, some (.int (iZ (moN (morB σ i u) (5 * a + b) : Int))), some (.int (iZ (moF (morB σ i u) (5 * a + b)))), some (.int (iZ (a : Int))), none]) ⟨rfl, ⟨rfl, ⟨rfl, ⟨rfl, ⟨rfl, ⟨rfl, ⟨rfl, ⟨rfl, trivial⟩⟩⟩⟩⟩⟩⟩⟩ ?_
                have h9 := hk9
                rw [show 5 * (a + 1) = 5 * a + b by omega] at h9
                exact h9
              · refine am_iload (q := 86) C dX10_more_84 rfl rfl ?_
                refine am_iload (q := 88) C dX10_more_86 rfl rfl ?_
                refine am_callS (q := 91) (As := [.int (iZ (a : Int)), .int (iZ (b : Int))]) (rest := []) C mb_X10_isStep st_X10_isStep ml_X10_95 dX10_more_88 rfl (sp_X10_isStep (a := (a : Int)) (b := (b : Int)) ⟨by omega, by omega⟩ ⟨by omega, by omega⟩) rfl rfl ⟨by decide, by decide⟩ ⟨Nat.le_refl _, Nat.le_refl _⟩ (Nat.le_of_ble_eq_true rfl) (am_rie ?_)
                refine am_ifB_eq (q := 94) (tgt := 132) C dX10_more_91 (by decide) rfl (fun e2 => ?_) (fun e2 => ?_)
                · refine am_iincZ (q := 135) (L' := [some (.ref 0), some (.int (iZ (i : Int))), some (.int (iZ (u : Int))), some (.int (iZ k)), some (.ref (183 + 2 * i)), none, some (.int (iZ (moN (morB σ i u) (5 * a + b) : Int))), some (.int (iZ (moF (morB σ i u) (5 * a + b)))), some (.int (iZ (a : Int))), some (.int (iZ ((b + 1 : Nat) : Int)))]) C dX10_more_132 rfl rfl (by omega) (by decide) rfl rfl ?_
                  refine am_goto (q := 78) C dX10_more_135 (by decide) ?_
                  have hv : morB σ i u (5 * a + b) = isTab σ.1 (sF σ i) u a b (sN σ i) := by unfold morB; rw [show (5 * a + b) / 5 = a by omega, show (5 * a + b) % 5 = b by omega]
                  have e51 : 5 * a + (b + 1) = (5 * a + b) + 1 := rfl
                  have hz : ¬ (1 ≤ 5 * a + b ∧ morB σ i u (5 * a + b) = true) := fun z => by
                    first | omega | exact absurd (hv ▸ z.2) (by assumption)
                  have en : moN (morB σ i u) (5 * a + (b + 1)) = moN (morB σ i u) (5 * a + b) := by rw [e51, moN_1, if_neg hz, Nat.add_zero]
                  have ef : moF (morB σ i u) (5 * a + (b + 1)) = moF (morB σ i u) (5 * a + b) := by rw [e51, moF_1, if_neg (fun z => hz z.1)]
                  have h9 := ih a (b + 1) ha (by omega) (by omega) hk9
                  rw [en, ef] at h9
                  exact h9
                · refine am_aload_n (q := 95) C dX10_more_94 rfl rfl ?_
                  refine am_aload (q := 97) C dX10_more_95 rfl rfl ?_
                  refine am_iload_n (q := 98) C dX10_more_97 rfl rfl ?_
                  refine am_iload (q := 100) C dX10_more_98 rfl rfl ?_
                  refine am_iload (q := 102) C dX10_more_100 rfl rfl ?_
                  refine am_callV (q := 105) (As := [.ref (183 + 2 * i), .int (iZ (u : Int)), .int (iZ (a : Int)), .int (iZ (b : Int))]) (rest := []) C mb_X10_isTableWith im_X10_isTableWith se_X10_isTableWith ml_X10_294 cb_10 kk_0 (show 0 < 215 by decide) dX10_more_102 rfl (sp_X10_isTableWith hi (atC_sh hC1 hi) hkn hT1 (u := u) (a := a) (b := b) hu (by omega) (by omega) (by omega) hb) rfl rfl ⟨by decide, by decide⟩ ⟨Nat.le_refl _, Nat.le_refl _⟩ (Nat.le_of_ble_eq_true rfl) (am_rie ?_)
                  refine am_ifB_eq (q := 108) (tgt := 132) C dX10_more_105 (by decide) rfl (fun e3 => ?_) (fun e3 => ?_)
                  · refine am_iincZ (q := 135) (L' := [some (.ref 0), some (.int (iZ (i : Int))), some (.int (iZ (u : Int))), some (.int (iZ k)), some (.ref (183 + 2 * i)), none, some (.int (iZ (moN (morB σ i u) (5 * a + b) : Int))), some (.int (iZ (moF (morB σ i u) (5 * a + b)))), some (.int (iZ (a : Int))), some (.int (iZ ((b + 1 : Nat) : Int)))]) C dX10_more_132 rfl rfl (by omega) (by decide) rfl rfl ?_
                    refine am_goto (q := 78) C dX10_more_135 (by decide) ?_
                    have hv : morB σ i u (5 * a + b) = isTab σ.1 (sF σ i) u a b (sN σ i) := by unfold morB; rw [show (5 * a + b) / 5 = a by omega, show (5 * a + b) % 5 = b by omega]
                    have e51 : 5 * a + (b + 1) = (5 * a + b) + 1 := rfl
                    have hz : ¬ (1 ≤ 5 * a + b ∧ morB σ i u (5 * a + b) = true) := fun z => by
                      first | omega | exact absurd (hv ▸ z.2) (by assumption)
                    have en : moN (morB σ i u) (5 * a + (b + 1)) = moN (morB σ i u) (5 * a + b) := by rw [e51, moN_1, if_neg hz, Nat.add_zero]
                    have ef : moF (morB σ i u) (5 * a + (b + 1)) = moF (morB σ i u) (5 * a + b) := by rw [e51, moF_1, if_neg (fun z => hz z.1)]
                    have h9 := ih a (b + 1) ha (by omega) (by omega) hk9
                    rw [en, ef] at h9
                    exact h9
                  · refine am_iincZ (q := 111) (L' := [some (.ref 0), some (.int (iZ (i : Int))), some (.int (iZ (u : Int))), some (.int (iZ k)), some (.ref (183 + 2 * i)), none, some (.int (iZ ((moN (morB σ i u) (5 * a + b) + 1 : Nat) : Int))), some (.int (iZ (moF (morB σ i u) (5 * a + b)))), some (.int (iZ (a : Int))), some (.int (iZ (b : Int)))]) C dX10_more_108 rfl rfl (by omega) (by decide) rfl rfl ?_
                    refine am_iload (q := 113) C dX10_more_111 rfl rfl ?_
                    refine am_iconst (q := 114) (v := iZ 1) C dX10_more_113 rfl rfl ?_
                    refine am_icmpZ_ne (q := 117) (tgt := 128) C dX10_more_114 (by decide) rfl ⟨by omega, by omega⟩ ⟨by omega, by omega⟩ (fun e4 => ?_) (fun e4 => ?_)
                    · refine am_iload (q := 130) C dX10_more_128 rfl rfl ?_
                      refine am_istore (q := 132) (L' := [some (.ref 0), some (.int (iZ (i : Int))), some (.int (iZ (u : Int))), some (.int (iZ k)), some (.ref (183 + 2 * i)), none, some (.int (iZ ((moN (morB σ i u) (5 * a + b) + 1 : Nat) : Int))), some (.int (iZ (moF (morB σ i u) (5 * a + b)))), some (.int (iZ (a : Int))), some (.int (iZ (b : Int)))]) C dX10_more_130 rfl (by decide) rfl rfl ?_
                      refine am_iincZ (q := 135) (L' := [some (.ref 0), some (.int (iZ (i : Int))), some (.int (iZ (u : Int))), some (.int (iZ k)), some (.ref (183 + 2 * i)), none, some (.int (iZ ((moN (morB σ i u) (5 * a + b) + 1 : Nat) : Int))), some (.int (iZ (moF (morB σ i u) (5 * a + b)))), some (.int (iZ (a : Int))), some (.int (iZ ((b + 1 : Nat) : Int)))]) C dX10_more_132 rfl rfl (by omega) (by decide) rfl rfl ?_
                      refine am_goto (q := 78) C dX10_more_135 (by decide) ?_
                      have hv : morB σ i u (5 * a + b) = isTab σ.1 (sF σ i) u a b (sN σ i) := by unfold morB; rw [show (5 * a + b) / 5 = a by omega, show (5 * a + b) % 5 = b by omega]
                      have e51 : 5 * a + (b + 1) = (5 * a + b) + 1 := rfl
                      have hz : 1 ≤ 5 * a + b ∧ morB σ i u (5 * a + b) = true := ⟨by omega, by rw [hv]; assumption⟩
                      have en : moN (morB σ i u) (5 * a + (b + 1)) = moN (morB σ i u) (5 * a + b) + 1 := by rw [e51, moN_1, if_pos hz]
                      have ef : moF (morB σ i u) (5 * a + (b + 1)) = moF (morB σ i u) (5 * a + b) := by rw [e51, moF_1, if_neg (fun z => by omega)]
                      have h9 := ih a (b + 1) ha (by omega) (by omega) hk9
                      rw [en, ef] at h9
                      exact h9
                    · refine am_bipush (q := 119) (v := iZ 10) C dX10_more_117 rfl rfl ?_
                      refine am_iload (q := 121) C dX10_more_119 rfl rfl ?_
                      refine am_imulZ (q := 122) C dX10_more_121 rfl ?_
                      refine am_iload (q := 124) C dX10_more_122 rfl rfl ?_
                      refine am_iaddZ (q := 125) C dX10_more_124 rfl ?_
                      refine am_goto (q := 130) C dX10_more_125 (by decide) ?_
                      refine am_istore (q := 132) (L' := [some (.ref 0), some (.int (iZ (i : Int))), some (.int (iZ (u : Int))), some (.int (iZ k)), some (.ref (183 + 2 * i)), none, some (.int (iZ ((moN (morB σ i u) (5 * a + b) + 1 : Nat) : Int))), some (.int (iZ (10 * (a : Int) + (b : Int)))), some (.int (iZ (a : Int))), some (.int (iZ (b : Int)))]) C dX10_more_130 rfl (by decide) rfl rfl ?_
                      refine am_iincZ (q := 135) (L' := [some (.ref 0), some (.int (iZ (i : Int))), some (.int (iZ (u : Int))), some (.int (iZ k)), some (.ref (183 + 2 * i)), none, some (.int (iZ ((moN (morB σ i u) (5 * a + b) + 1 : Nat) : Int))), some (.int (iZ (10 * (a : Int) + (b : Int)))), some (.int (iZ (a : Int))), some (.int (iZ ((b + 1 : Nat) : Int)))]) C dX10_more_132 rfl rfl (by omega) (by decide) rfl rfl ?_
                      refine am_goto (q := 78) C dX10_more_135 (by decide) ?_
                      have hv : morB σ i u (5 * a + b) = isTab σ.1 (sF σ i) u a b (sN σ i) := by unfold morB; rw [show (5 * a + b) / 5 = a by omega, show (5 * a + b) % 5 = b by omega]
                      have e51 : 5 * a + (b + 1) = (5 * a + b) + 1 := rfl
                      have hz : 1 ≤ 5 * a + b ∧ morB σ i u (5 * a + b) = true := ⟨by omega, by rw [hv]; assumption⟩
                      have en : moN (morB σ i u) (5 * a + (b + 1)) = moN (morB σ i u) (5 * a + b) + 1 := by rw [e51, moN_1, if_pos hz]
                      have ef : moF (morB σ i u) (5 * a + (b + 1)) = 10 * (a : Int) + (b : Int) := by rw [e51, moF_1, if_pos ⟨hz, by omega⟩, show (5 * a + b) / 5 = a by omega, show (5 * a + b) % 5 = b by omega]
                      have h9 := ih a (b + 1) ha (by omega) (by omega) hk9
                      rw [en, ef] at h9
                      exact h9
          have lo : ∀ (fuel : Nat) (a : Nat), (a ≤ 5) → (6 - a) < fuel → am_A G mX10_more X (am_rm 6 0 0) 69 [some (.ref 0), some (.int (iZ (i : Int))), some (.int (iZ (u : Int))), some (.int (iZ k)), some (.ref (183 + 2 * i)), none, some (.int (iZ (moN (morB σ i u) (5 * a) : Int))), some (.int (iZ (moF (morB σ i u) (5 * a)))), some (.int (iZ (a : Int))), none] [] (215, kK, kR, I1, J1) 0 0 := by
            intro fuel
            induction fuel with
            | zero => intro a ha hf; exact absurd hf (Nat.not_lt_zero _)
            | succ fuel ih =>
              intro a ha hf
              have hn1 := moN_le (morB σ i u) (5 * a)
              have hn2 := moF_rg (morB σ i u) (5 * a) (by omega)
              refine am_iload (q := 71) C dX10_more_69 rfl rfl ?_
              refine am_iconst (q := 72) (v := iZ 4) C dX10_more_71 rfl rfl ?_
              refine am_icmpZ_gt (q := 75) (tgt := 144) C dX10_more_72 (by decide) rfl ⟨by omega, by omega⟩ ⟨by omega, by omega⟩ (fun g1 => ?_) (fun g1 => ?_)
              · refine am_iload_n (q := 145) C dX10_more_144 rfl rfl ?_
                refine am_ifZ_ne (q := 148) (tgt := 153) C dX10_more_145 (by decide) rfl hk (fun g2 => ?_) (fun g2 => ?_)
                · refine am_iload (q := 155) C dX10_more_153 rfl rfl ?_
                  refine am_iret C T dX10_more_155 rfl (Nat.le_refl _) (Nat.le_refl _) ⟨_, rfl, ?_⟩
                  have e1 : moreA σ (i : Int) (u : Int) k = moF (morB σ i u) 25 := by
                    unfold moreA
                    simp only [Int.toNat_natCast]
                    rw [if_pos (by omega), if_pos (by omega), if_pos (by assumption)]
                    first | exact if_pos (by omega) | exact if_neg (by omega)
                  rw [e1, show 5 * a = 25 by omega]
                  exact ⟨rfl, _, _, rfl, hC1, hfr⟩
                · refine am_iload (q := 150) C dX10_more_148 rfl rfl ?_
                  refine am_goto (q := 155) C dX10_more_150 (by decide) ?_
                  refine am_iret C T dX10_more_155 rfl (Nat.le_refl _) (Nat.le_refl _) ⟨_, rfl, ?_⟩
                  have e1 : moreA σ (i : Int) (u : Int) k = (moN (morB σ i u) 25 : Int) := by
                    unfold moreA
                    simp only [Int.toNat_natCast]
                    rw [if_pos (by omega), if_pos (by omega), if_pos (by assumption)]
                    first | exact if_pos (by omega) | exact if_neg (by omega)
                  rw [e1, show 5 * a = 25 by omega]
                  exact ⟨rfl, _, _, rfl, hC1, hfr⟩
              · refine am_iconst (q := 76) (v := iZ 0) C dX10_more_75 rfl rfl ?_
                refine am_istore (q := 78) (L' := [some (.ref 0), some (.int (iZ (i : Int))), some (.int (iZ (u : Int))), some (.int (iZ k)), some (.ref (183 + 2 * i)), none, some (.int (iZ (moN (morB σ i u) (5 * a) : Int))), some (.int (iZ (moF (morB σ i u) (5 * a)))), some (.int (iZ (a : Int))), some (.int (iZ 0))]) C dX10_more_76 rfl (by decide) rfl rfl ?_
                refine li 7 a 0 (by omega) (by omega) (by omega) ?_
                refine am_iincZ (q := 141) (L' := [some (.ref 0), some (.int (iZ (i : Int))), some (.int (iZ (u : Int))), some (.int (iZ k)), some (.ref (183 + 2 * i)), none, some (.int (iZ (moN (morB σ i u) (5 * (a + 1)) : Int))), some (.int (iZ (moF (morB σ i u) (5 * (a + 1))))), some (.int (iZ ((a + 1 : Nat) : Int))), none]) C dX10_more_138 rfl rfl (by omega) (by decide) rfl rfl ?_
                refine am_goto (q := 69) C dX10_more_141 (by decide) ?_
                exact ih (a + 1) (by omega) (by omega)
          refine am_wkA (L1 := [some (.ref 0), some (.int (iZ (i : Int))), some (.int (iZ (u : Int))), some (.int (iZ k)), some (.ref (183 + 2 * i)), none, some (.int (iZ 0)), some (.int (iZ (-3))), some (.int (iZ 0)), none]) ⟨rfl, ⟨rfl, ⟨rfl, ⟨rfl, ⟨rfl, ⟨rfl, ⟨rfl, ⟨rfl, trivial⟩⟩⟩⟩⟩⟩⟩⟩ ?_
          exact lo 7 0 (by omega) (by omega)
        · refine am_iload (q := 38) C dX10_more_36 rfl rfl ?_
          refine am_iret C T dX10_more_38 rfl (Nat.le_refl _) (Nat.le_refl _) ⟨_, rfl, ?_⟩
          have e1 : moreA σ (i : Int) w k = refT (sS σ i) w := by
            unfold moreA
            try simp only [Int.toNat_natCast]
            first | (rw [if_neg (by omega)]; done) | (rw [if_pos (by omega), if_pos (by omega), if_neg (by omega)]; done)
          rw [e1]
          exact ⟨rfl, _, _, rfl, hC, frC_refl⟩
      · refine am_iconst (q := 10) (v := iZ (-1)) C dX10_more_9 rfl rfl ?_
        refine am_iret C T dX10_more_10 rfl (Nat.le_refl _) (Nat.le_refl _) ⟨_, rfl, ?_⟩
        have e1 : moreA σ (i : Int) w k = (-1) := by
          unfold moreA
          try simp only [Int.toNat_natCast]
          first | (rw [if_neg (by omega)]; done) | (rw [if_pos (by omega), if_pos (by omega), if_neg (by omega)]; done)
        rw [e1]
        exact ⟨rfl, _, _, rfl, hC, frC_refl⟩
  · refine am_iload_n (q := 1) C dX10_more_0 rfl rfl ?_
    refine am_ifZ_lt (q := 4) (tgt := 9) C dX10_more_1 (by decide) rfl hk (fun c1 => ?_) (fun c1 => ?_)
    · refine am_iconst (q := 10) (v := iZ (-1)) C dX10_more_9 rfl rfl ?_
      refine am_iret C T dX10_more_10 rfl (Nat.le_refl _) (Nat.le_refl _) ⟨_, rfl, ?_⟩
      have e1 : moreA σ p w k = (-1) := by
        unfold moreA
        try simp only [Int.toNat_natCast]
        first | (rw [if_neg (by omega)]; done) | (rw [if_pos (by omega), if_neg (by omega)]; done)
      rw [e1]
      exact ⟨rfl, _, _, rfl, hC, frC_refl⟩
    · refine am_iload_n (q := 5) C dX10_more_4 rfl rfl ?_
      refine am_iconst (q := 6) (v := iZ 1) C dX10_more_5 rfl rfl ?_
      refine am_icmpZ_le (q := 9) (tgt := 11) C dX10_more_6 (by decide) rfl hk ⟨by omega, by omega⟩ (fun c2 => ?_) (fun c2 => ?_)
      · refine am_aload_n (q := 12) C dX10_more_11 rfl rfl ?_
        refine am_iload_n (q := 13) C dX10_more_12 rfl rfl ?_
        refine am_callV (q := 16) (As := [.int (iZ p)]) (rest := []) C mb_X10_sheetAt im_X10_sheetAt se_X10_sheetAt ml_X10_257 cb_10 kk_0 (show 0 < 215 by decide) dX10_more_13 rfl (sp_sheetAtO hp h0) rfl rfl ⟨by decide, by decide⟩ ⟨Nat.le_refl _, Nat.le_refl _⟩ (Nat.le_of_ble_eq_true rfl) (am_rre ?_)
        show am_A _ _ _ _ _ _ (.null :: _) _ _ _
        refine am_astoreN (q := 18) (L' := [some (.ref 0), some (.int (iZ p)), some (.int (iZ w)), some (.int (iZ k)), some (.null), none, none, none, none, none]) C dX10_more_16 rfl (by decide) rfl rfl ?_
        refine am_aloadN (q := 20) C dX10_more_18 rfl rfl ?_
        refine am_iload_n (q := 21) C dX10_more_20 rfl rfl ?_
        refine am_callS (q := 24) (As := [.null, .int (iZ w)]) (rest := []) C mb_X10_tableRefusal st_X10_tableRefusal ml_X10_278 dX10_more_21 rfl sp_X10_tableRefusalN rfl rfl ⟨by decide, by decide⟩ ⟨Nat.le_refl _, Nat.le_refl _⟩ (Nat.le_of_ble_eq_true rfl) (am_rie ?_)
        refine am_istore (q := 26) (L' := [some (.ref 0), some (.int (iZ p)), some (.int (iZ w)), some (.int (iZ k)), some (.null), some (.int (iZ (-1))), none, none, none, none]) C dX10_more_24 rfl (by decide) rfl rfl ?_
        refine am_aloadN (q := 28) C dX10_more_26 rfl rfl ?_
        refine am_ifnullN (q := 36) C dX10_more_28 (by decide) ?_
        refine am_iload (q := 38) C dX10_more_36 rfl rfl ?_
        refine am_iret C T dX10_more_38 rfl (Nat.le_refl _) (Nat.le_refl _) ⟨_, rfl, ?_⟩
        have e1 : moreA σ p w k = (-1) := by
          unfold moreA
          try simp only [Int.toNat_natCast]
          first | (rw [if_neg (by omega)]; done) | (rw [if_pos (by omega), if_neg (by omega)]; done)
        rw [e1]
        exact ⟨rfl, _, _, rfl, hC, frC_refl⟩
      · refine am_iconst (q := 10) (v := iZ (-1)) C dX10_more_9 rfl rfl ?_
        refine am_iret C T dX10_more_10 rfl (Nat.le_refl _) (Nat.le_refl _) ⟨_, rfl, ?_⟩
        have e1 : moreA σ p w k = (-1) := by
          unfold moreA
          try simp only [Int.toNat_natCast]
          first | (rw [if_neg (by omega)]; done) | (rw [if_pos (by omega), if_neg (by omega)]; done)
        rw [e1]
        exact ⟨rfl, _, _, rfl, hC, frC_refl⟩
