variable {G : am_G} {I : Nat → Nat → Int32} {J : Nat → Nat → Int64}
theorem rGo_rg (n : Nat) (b : Nat → Nat) : ∀ k e r, e ≤ n → -1 ≤ (rGo n b k e r).1 ∧ (rGo n b k e r).1 ≤ n
  | 0, e, r, _ => ⟨by show (-1 : Int) ≤ 0; omega, by show (0 : Int) ≤ n; omega⟩
  | k + 1, e, r, h => by
    have h1 := tkA_le (b := b) h
    by_cases c1 : srt n b (tkA n b e) = 0
    · by_cases c2 : r.2.2.2.2.1 = 2 ∧ r.1 = 0
      · rw [rGo_end c1 c2]; show (-1 : Int) ≤ -1 ∧ (-1 : Int) ≤ n; omega
      · rw [rGo_bad c1 c2]; show (-1 : Int) ≤ (tkA n b e : Int) ∧ (tkA n b e : Int) ≤ n; omega
    · by_cases c2 : (rTk (spl b (tkA n b e) (tkZ n b (tkA n b e))) (srt n b (tkA n b e)) (tkN b (tkA n b e) (tkZ n b (tkA n b e))) r).1 = true
      · rw [rGo_on c1 c2]; exact rGo_rg n b k _ _ (tkZ_le h1.2).2
      · rw [rGo_no c1 c2]; show (-1 : Int) ≤ (tkA n b e : Int) ∧ (tkA n b e : Int) ≤ n; omega
theorem rAll_rg (n : Nat) (b : Nat → Nat) (r : RS) : -1 ≤ (rAll n b r).1 ∧ (rAll n b r).1 ≤ n := rGo_rg n b 101 0 _ (Nat.zero_le _)
/-- another rule -/
def setr (t : PT) (p s : Nat) : PT := (t.1, t.2.1, t.2.2.1, t.2.2.2.1, fun q => if q = p then s else t.2.2.2.2 q)
theorem okP_setr {t : PT} (h : okP t) {p s : Nat} (hs : s < 2 ^ 61) : okP (setr t p s) := by
  refine ⟨h.1, fun q hq => ?_⟩
  obtain ⟨h1, h2, h3, h4, h5, h6⟩ := h.2 q hq
  refine ⟨h1, h2, h3, h4, h5, ?_⟩
  show (if q = p then s else ps t q) < 2 ^ 61
  split
  · exact hs
  · exact h6
theorem atP_setr {t : PT} (h : atP 1 I J t) (p s : Nat) : atP 1 I (am_up J 5 p (lN s)) (setr t p s) := by
  refine ⟨h.1, fun q hq => ?_⟩
  obtain ⟨h1, h2, h3, h4⟩ := h.2 q hq
  refine ⟨h1, h2, h3, ?_⟩
  show am_up J 5 p _ 5 q = lN (if q = p then s else ps t q)
  by_cases e : q = p
  · rw [if_pos e, e, am_up_eq]
  · rw [if_neg e, am_up_ne _ _ _ _ (Or.inr e)]; exact h4
/-- the tape is used up -/
def clS (σ : SG) : SG := tpS σ (0, σ.2.2.2.2.1.2)
abbrev rlA (σ : SG) (r : RS) : Int × Nat := rAll (tpN σ) σ.2.2.2.2.1.2 r
def ruleA (σ : SG) (p : Int) (r : RS) : Int := if 0 ≤ p ∧ p < pm σ.1 then (if 0 ≤ (rlA σ r).1 then -100 - (rlA σ r).1 else (ons 64 (rlA σ r).2 : Int)) else -1
def ruleT (σ : SG) (p : Int) (r : RS) : SG := if 0 ≤ p ∧ p < pm σ.1 then (if 0 ≤ (rlA σ r).1 then clS σ else (setr σ.1 p.toNat (rlA σ r).2, pushU σ.1 σ.2.1, (clS σ).2.2)) else σ
theorem clS_at {σ : SG} {I1 : Nat → Nat → Int32} {J1 : Nat → Nat → Int64} (h : atC I J σ) (hT1 : atT I1 (tpN σ) σ.2.2.2.2.1.2) (hR1 : ∃ r1, atR I1 J1 r1) (hI1 : ∀ h, h ≠ 163 → h ≠ 165 → h ≠ 168 → I1 h = I h) (hJ1 : ∀ h, h ≠ 165 → h ≠ 166 → h ≠ 167 → J1 h = J h) : atC (am_up I1 163 1 (iZ 0)) J1 (clS σ) := by
  have hI : ∀ x, x ≠ 163 → x ≠ 165 → x ≠ 168 → am_up I1 163 1 (iZ 0) x = I x := fun x g1 g2 g3 => by rw [am_up_row _ _ _ _ g1]; exact hI1 x g1 g2 g3
  refine atC_0 (g := (clS σ).2.2) h (fun x h1 h2 h3 h4 h5 => ⟨hI x (by omega) (by omega) (by omega), hJ1 x (by omega) (by omega) (by omega)⟩) ?_
  obtain ⟨h1, h2, h3, h4, h5, h6, h7⟩ := h.2.2.2.2
  obtain ⟨r1, hr⟩ := hR1
  refine ⟨by rw [hI 0 (by omega) (by omega) (by omega)]; exact h1, by rw [hI 0 (by omega) (by omega) (by omega)]; exact h2, by rw [hI 0 (by omega) (by omega) (by omega)]; exact h3, fun e => ⟨(h4 e).1.on (fun a h8 h9 => hI a (by omega) (by omega) (by omega)) (hJ1 10 (by omega) (by omega) (by omega)), (h4 e).2⟩, ⟨am_up_eq _ _ _ _, Nat.zero_le _, fun k hk => absurd hk (Nat.not_lt_zero _)⟩, ⟨r1, hr.on (am_up_row _ _ _ _ (by decide)) (am_up_row _ _ _ _ (by decide)) rfl rfl⟩, fun j hj => (h7 j hj).on (hI _ (by omega) (by omega) (by omega)) (hJ1 _ (by omega) (by omega) (by omega))⟩
set_option maxRecDepth 4000 in
theorem sp_X10_rule {σ : SG} (hC : atC I J σ) {p : Int} (hp : rg p) : am_S G mX10_rule 10 0 0 [.ref 0, .int (iZ p)] (215, kK, kR, I, J) (am_qi (fun v w' => ∃ r : RS, v = iZ (ruleA σ p r) ∧ ∃ (I' : Nat → Nat → Int32) (J' : Nat → Nat → Int64), w' = (215, kK, kR, I', J') ∧ atC I' J' (ruleT σ p r) ∧ frC I J I' J')) := by
  obtain ⟨r, hR⟩ := hC.2.2.2.2.2.2.2.2.2.1
  obtain ⟨n0, hU⟩ := hC.2.2.2.1
  have hT0 : atT I (tpN σ) σ.2.2.2.2.1.2 := hC.2.2.2.2.2.2.2.2.1
  have ht := hT0.2.1
  have hg : -1 ≤ (rlA σ r).1 ∧ (rlA σ r).1 ≤ (tpN σ : Int) := rAll_rg (tpN σ) σ.2.2.2.2.1.2 r
  have hm := hC.2.1.1
  refine am_spec (plainFor_of_name (by decide +kernel)) (Nat.le_of_ble_eq_true rfl) (L := [some (.ref 0), some (.int (iZ p)), none]) rfl (fun X C T => ?_)
  refine am_aload_n (q := 1) C dX10_rule_0 rfl rfl ?_
  refine am_getR (q := 4) C fb_X10_14 dX10_rule_1 rfl rfl kk_0 (show 0 < 215 by decide) kr_0_0 ?_
  refine am_iload_n (q := 5) C dX10_rule_4 rfl rfl ?_
  refine am_callN (q := 8) (As := [.int (iZ p)]) (rest := []) C mb_X5_has im_X5_has se_X5_has mn_X10_113 cb_5 kk_1 (show 1 < 215 by decide) dX10_rule_5 rfl (sp_X5_has isP_1 hC.1 hC.2.1 hp) rfl rfl ⟨by decide, by decide⟩ ⟨Nat.le_refl _, Nat.le_refl _⟩ (Nat.le_of_ble_eq_true rfl) (am_rie ?_)
  refine am_ifB_ne (q := 11) (tgt := 13) C dX10_rule_8 (by decide) rfl (fun c1 => ?_) (fun c1 => ?_)
  · refine am_aload_n (q := 14) C dX10_rule_13 rfl rfl ?_
    refine am_getR (q := 17) C fb_X10_38 dX10_rule_14 rfl rfl kk_0 (show 0 < 215 by decide) kr_0_4 ?_
    refine am_aload_n (q := 18) C dX10_rule_17 rfl rfl ?_
    refine am_getR (q := 21) C fb_X10_31 dX10_rule_18 rfl rfl kk_0 (show 0 < 215 by decide) kr_0_3 ?_
    refine am_callN (q := 24) (As := [.ref 163]) (rest := []) C mb_X6_faultIn im_X6_faultIn se_X6_faultIn mn_X10_143 cb_6 kk_165 (show 165 < 215 by decide) dX10_rule_21 rfl (sp_X6_faultIn hR hT0) rfl rfl ⟨by decide, by decide⟩ ⟨Nat.le_refl _, Nat.le_refl _⟩ (Nat.le_of_ble_eq_true rfl) (am_ri (fun v' w' hw' => ?_))
    obtain ⟨rfl, I1, J1, rfl, hT1, ⟨r1, hR1⟩, hans, hI1, hJ1⟩ := hw'
    have hans : (rlA σ r).1 = -1 → J1 165 6 = lN (rlA σ r).2 ∧ (rlA σ r).2 < 2 ^ 61 := hans
    refine am_istore_n (q := 25) (L' := [some (.ref 0), some (.int (iZ p)), some (.int (iZ ((rlA σ r).1)))]) C dX10_rule_24 rfl (by decide) rfl rfl ?_
    refine am_aload_n (q := 26) C dX10_rule_25 rfl rfl ?_
    refine am_getR (q := 29) C fb_X10_31 dX10_rule_26 rfl rfl kk_0 (show 0 < 215 by decide) kr_0_3 ?_
    refine am_callN (q := 32) (As := []) (rest := []) C mb_X8_clear im_X8_clear se_X8_clear mn_X10_147 cb_8 kk_163 (show 163 < 215 by decide) dX10_rule_29 rfl sp_X8_clear rfl rfl ⟨by decide, by decide⟩ ⟨Nat.le_refl _, Nat.le_refl _⟩ (Nat.le_of_ble_eq_true rfl) (am_rve ?_)
    refine am_iload_n (q := 33) C dX10_rule_32 rfl rfl ?_
    refine am_ifZ_lt (q := 36) (tgt := 41) C dX10_rule_33 (by decide) rfl ⟨by omega, by omega⟩ (fun c2 => ?_) (fun c2 => ?_)
    · refine am_aload_n (q := 42) C dX10_rule_41 rfl rfl ?_
      refine am_getR (q := 45) C fb_X10_24 dX10_rule_42 rfl rfl kk_0 (show 0 < 215 by decide) kr_0_2 ?_
      refine am_aload_n (q := 46) C dX10_rule_45 rfl rfl ?_
      refine am_getR (q := 49) C fb_X10_14 dX10_rule_46 rfl rfl kk_0 (show 0 < 215 by decide) kr_0_0 ?_
      have hm1 : (rlA σ r).1 = -1 := by omega
      obtain ⟨ha1, ha2⟩ := hans hm1
      have hC2 : atC (am_up I1 163 1 (iZ 0)) J1 (clS σ) := clS_at hC hT1 ⟨r1, hR1⟩ hI1 hJ1
      obtain ⟨n2, hU2⟩ := hC2.2.2.2.1
      refine am_callN (q := 52) (As := [.ref 1]) (rest := []) C mb_X0_remember im_X0_remember se_X0_remember mn_X10_106 cb_0 kk_11 (show 11 < 215 by decide) dX10_rule_49 rfl (sp_X0_remember hU2 hC2.1 hC2.2.1) rfl rfl ⟨by decide, by decide⟩ ⟨Nat.le_refl _, Nat.le_refl _⟩ (Nat.le_of_ble_eq_true rfl) (am_rv (fun w' hw' => ?_))
      obtain ⟨I3, J3, rfl, hU3, hf3⟩ := hw'
      have hA3 : atP 1 I3 J3 σ.1 := hC2.1.on (fun x _ h => (hf3 x (by omega)).1) (hf3 5 (by omega)).2
      refine am_aload_n (q := 53) C dX10_rule_52 rfl rfl ?_
      refine am_getR (q := 56) C fb_X10_14 dX10_rule_53 rfl rfl kk_0 (show 0 < 215 by decide) kr_0_0 ?_
      refine am_getR (q := 59) C fb_X10_130 dX10_rule_56 rfl rfl kk_1 (show 1 < 215 by decide) kr_1_3 ?_
      refine am_iload_n (q := 60) C dX10_rule_59 rfl rfl ?_
      refine am_aload_n (q := 61) C dX10_rule_60 rfl rfl ?_
      refine am_getR (q := 64) C fb_X10_38 dX10_rule_61 rfl rfl kk_0 (show 0 < 215 by decide) kr_0_4 ?_
      refine am_getJ (q := 67) C fb_X10_150 dX10_rule_64 rfl rfl kk_165 (show 165 < 215 by decide) ?_
      refine am_longE (y := (lN ((rlA σ r).2))) (by rw [(hf3 165 (by omega)).2]; exact ha1) ?_
      refine am_lastoreZ (q := 68) p.toNat C dX10_rule_67 rfl kk_5 (show 5 < 215 by decide) (by omega) (by omega) (by decide) ?_
      refine am_aload_n (q := 69) C dX10_rule_68 rfl rfl ?_
      refine am_callV (q := 72) (As := []) (rest := []) C mb_X10_partsChanged im_X10_partsChanged se_X10_partsChanged ml_X10_110 cb_10 kk_0 (show 0 < 215 by decide) dX10_rule_69 rfl (sp_X10_partsChanged (atP_setr hA3 p.toNat (rlA σ r).2) (okP_setr hC.2.1 ha2)) rfl rfl ⟨by decide, by decide⟩ ⟨Nat.le_refl _, Nat.le_refl _⟩ (Nat.le_of_ble_eq_true rfl) (am_rv (fun w' hw' => ?_))
      obtain ⟨I4, rfl, hV4, hf4⟩ := hw'
      refine am_aload_n (q := 73) C dX10_rule_72 rfl rfl ?_
      refine am_getR (q := 76) C fb_X10_38 dX10_rule_73 rfl rfl kk_0 (show 0 < 215 by decide) kr_0_4 ?_
      refine am_getJ (q := 79) C fb_X10_150 dX10_rule_76 rfl rfl kk_165 (show 165 < 215 by decide) ?_
      refine am_longE (y := (lN ((rlA σ r).2))) (by rw [am_up_row _ _ _ _ (by decide), (hf3 165 (by omega)).2]; exact ha1) ?_
      refine am_callS (q := 82) (As := [.long (lN ((rlA σ r).2))]) (rest := []) C mb_J13_bitCount_95d88 st_J13_bitCount_95d88 ml_X10_134 dX10_rule_79 rfl (sp_bitCount ha2) rfl rfl ⟨by decide, by decide⟩ ⟨Nat.le_refl _, Nat.le_refl _⟩ (Nat.le_of_ble_eq_true rfl) (am_rie ?_)
      refine am_iret C T dX10_rule_82 rfl (Nat.le_refl _) (Nat.le_refl _) ⟨_, rfl, ?_⟩
      have e1 : ruleA σ p r = (ons 64 (rlA σ r).2 : Int) := by
        unfold ruleA
        try simp only [Int.toNat_natCast]
        first | (rw [if_pos (by omega), if_neg (by omega)]; done)
      have e2 : ruleT σ p r = (setr σ.1 p.toNat (rlA σ r).2, pushU σ.1 σ.2.1, (clS σ).2.2) := by
        unfold ruleT
        try simp only [Int.toNat_natCast]
        first | (rw [if_pos (by omega), if_neg (by omega)]; done)
      refine ⟨r, ?_⟩
      rw [e1, e2]
      refine ⟨rfl, _, _, rfl, ⟨(atP_setr hA3 p.toNat (rlA σ r).2).on (fun x _ h => hf4 x (by omega)) rfl, okP_setr hC.2.1 ha2, hV4, ⟨_, hU3.on (fun x h1 h2 => ⟨?_, ?_⟩)⟩, hC2.2.2.2.2.on (fun x hx => ⟨?_, ?_⟩)⟩, fun x hx => ⟨?_, ?_⟩⟩
      · rw [hf4 x (by omega)]
      · rw [am_up_row _ _ _ _ (by omega)]
      · rw [hf4 x (by omega), (hf3 x (by omega)).1]
      · rw [am_up_row _ _ _ _ (by omega), (hf3 x (by omega)).2]
      · rw [hf4 x (by omega), (hf3 x (by omega)).1, am_up_row _ _ _ _ (by omega)]; exact hI1 x (by omega) (by omega) (by omega)
      · rw [am_up_row _ _ _ _ (by omega), (hf3 x (by omega)).2]; exact hJ1 x (by omega) (by omega) (by omega)
    · refine am_bipush (q := 38) (v := iZ (-100)) C dX10_rule_36 rfl rfl ?_
      refine am_iload_n (q := 39) C dX10_rule_38 rfl rfl ?_
      refine am_isubZ (q := 40) C dX10_rule_39 rfl ?_
      refine am_iret C T dX10_rule_40 rfl (Nat.le_refl _) (Nat.le_refl _) ⟨_, rfl, ?_⟩
      have hC2 : atC (am_up I1 163 1 (iZ 0)) J1 (clS σ) := clS_at hC hT1 ⟨r1, hR1⟩ hI1 hJ1
      have e1 : ruleA σ p r = -100 - (rlA σ r).1 := by
        unfold ruleA
        try simp only [Int.toNat_natCast]
        first | (rw [if_pos (by omega), if_pos (by omega)]; done)
      have e2 : ruleT σ p r = clS σ := by
        unfold ruleT
        try simp only [Int.toNat_natCast]
        first | (rw [if_pos (by omega), if_pos (by omega)]; done)
      refine ⟨r, ?_⟩
      rw [e1, e2]
      refine ⟨rfl, _, _, rfl, hC2, fun x hx => ⟨?_, ?_⟩⟩
      · rw [am_up_row _ _ _ _ (by omega)]; exact hI1 x (by omega) (by omega) (by omega)
      · exact hJ1 x (by omega) (by omega) (by omega)
  · refine am_iconst (q := 12) (v := iZ (-1)) C dX10_rule_11 rfl rfl ?_
    refine am_iret C T dX10_rule_12 rfl (Nat.le_refl _) (Nat.le_refl _) ⟨_, rfl, ?_⟩
    have e1 : ruleA σ p r = (-1) := by
      unfold ruleA
      try simp only [Int.toNat_natCast]
      first | (rw [if_neg (by omega)]; done)
    have e2 : ruleT σ p r = σ := by
      unfold ruleT
      try simp only [Int.toNat_natCast]
      first | (rw [if_neg (by omega)]; done)
    refine ⟨r, ?_⟩
    rw [e1, e2]
    exact ⟨rfl, _, _, rfl, hC, frC_refl⟩
