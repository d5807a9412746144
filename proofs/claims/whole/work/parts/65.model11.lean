variable {G : am_G} {I : Nat → Nat → Int32} {J : Nat → Nat → Int64}
theorem lack_0 {σ : SG} {p w : Int} (h : lackA σ p w = 0) : (0 ≤ p ∧ p < 4) ∧ refT (sS σ p.toNat) w = 0 := by
  unfold lackA at h
  by_cases e : 0 ≤ p ∧ p < 4
  · rw [if_pos e] at h; exact ⟨e, h⟩
  · rw [if_neg e] at h; exact absurd h (by decide)
theorem lack_rg (σ : SG) (p w : Int) : -13 ≤ lackA σ p w ∧ lackA σ p w ≤ 0 := by
  have := refT_rg (sS σ p.toNat) w
  unfold lackA
  split <;> omega
theorem lay_no {σ : SG} {p w : Int} (h : lackA σ p w ≠ 0) : layA σ p w = lackA σ p w ∧ layT σ p w = σ ∧ checkA σ p w = lackA σ p w := by
  unfold layA layT checkA lackA at *
  by_cases e : 0 ≤ p ∧ p < 4
  · simp only [if_pos e] at *
    simp only [if_neg h]
    exact ⟨trivial, trivial, trivial⟩
  · simp only [if_neg e]
    exact ⟨trivial, trivial, trivial⟩
theorem more_no {σ : SG} {p w k : Int} (hk : 0 ≤ k ∧ k ≤ 1) (h : lackA σ p w ≠ 0) : moreA σ p w k = lackA σ p w := by
  unfold moreA lackA at *
  rw [if_pos hk]
  by_cases e : 0 ≤ p ∧ p < 4
  · simp only [if_pos e] at *
    simp only [if_neg h]
  · simp only [if_neg e]
def fiN (b : Bool) : Nat := if b = true then 1 else 0
theorem fiN_le (b : Bool) : fiN b ≤ 1 := by cases b <;> decide
theorem fiN_1 {b : Bool} : fiN b = 1 ↔ b = true := by cases b <;> decide
set_option maxRecDepth 4000 in
theorem sp_X11_countTable {σ : SG} (hM : atM I J σ) {i : Nat} (hi : i < 4) {u : Nat} (hu : 1 ≤ u ∧ u ≤ 10) : am_S G mX11_countTable 3 0 0 [.ref 191, .int (iZ (i : Int)), .int (iZ (u : Int))] (215, kK, kR, I, J) (am_qv (fun w' => ∃ J' : Nat → Nat → Int64, w' = (215, kK, kR, I, J') ∧ (∀ h, h ≠ 207 → J' h = J h) ∧ tabB J' (min (sN σ i) u) (sN σ i / u) σ.1)) := by
  obtain ⟨a1, a2, a3, a4, a5, a6⟩ := hM.2.2.2.2.2.2.2 i hi
  have hd1 : sN σ i / u ≤ sN σ i := Nat.div_le_self _ _
  have hd2 : (0 : Int) ≤ ((sN σ i / u : Nat) : Int) := Int.natCast_nonneg _
  refine am_spec (plainFor_of_name (by decide +kernel)) (Nat.le_of_ble_eq_true rfl) (L := [some (.ref 191), some (.int (iZ (i : Int))), some (.int (iZ (u : Int))), none]) rfl (fun X C T => ?_)
  refine am_aload_n (q := 1) C dX11_countTable_0 rfl rfl ?_
  refine am_getR (q := 4) C fb_X11_80 dX11_countTable_1 rfl rfl kk_191 (show 191 < 215 by decide) kr_191_46 ?_
  refine am_iload_n (q := 5) C dX11_countTable_4 rfl rfl ?_
  refine am_ialoadZ (q := 6) i C dX11_countTable_5 rfl kk_213 (show 213 < 215 by decide) rfl (by omega) (by decide) ?_
  refine am_intE (y := (iZ (sN σ i : Int))) a2 ?_
  refine am_istore_n (q := 7) (L' := [some (.ref 191), some (.int (iZ (i : Int))), some (.int (iZ (u : Int))), some (.int (iZ (sN σ i : Int)))]) C dX11_countTable_6 rfl (by decide) rfl rfl ?_
  refine am_aload_n (q := 8) C dX11_countTable_7 rfl rfl ?_
  refine am_iload_n (q := 9) C dX11_countTable_8 rfl rfl ?_
  refine am_iload_n (q := 10) C dX11_countTable_9 rfl rfl ?_
  refine am_icmpZ_ge (q := 13) (tgt := 17) C dX11_countTable_10 (by decide) rfl ⟨by omega, by omega⟩ ⟨by omega, by omega⟩ (fun c1 => ?_) (fun c1 => ?_)
  · refine am_iload_n (q := 18) C dX11_countTable_17 rfl rfl ?_
    refine am_intE (show _ = iZ ((min (sN σ i) u : Nat) : Int) from congrArg iZ (by omega)) ?_
    refine am_iload_n (q := 19) C dX11_countTable_18 rfl rfl ?_
    refine am_iload_n (q := 20) C dX11_countTable_19 rfl rfl ?_
    refine am_idivZ (q := 21) C dX11_countTable_20 rfl ⟨by omega, by omega⟩ ⟨by omega, by omega⟩ (by omega) (by omega) ?_
    refine am_intE (y := (iZ ((sN σ i / u : Nat) : Int))) (congrArg iZ rfl) ?_
    refine am_callV (q := 24) (As := [.int (iZ ((min (sN σ i) u : Nat) : Int)), .int (iZ ((sN σ i / u : Nat) : Int))]) (rest := []) C mb_X11_count im_X11_count se_X11_count ml_X11_180 cb_11 kk_191 (show 191 < 215 by decide) dX11_countTable_21 rfl (sp_X11_count hM.1 hM.2.1 (cx := min (sN σ i) u) (cy := sN σ i / u) (by omega) (by omega)) rfl rfl ⟨by decide, by decide⟩ ⟨Nat.le_refl _, Nat.le_refl _⟩ (Nat.le_of_ble_eq_true rfl) (am_rv (fun w' hw' => ?_))
    obtain ⟨J1, rfl, hJ1, hT1⟩ := hw'
    refine am_vret C T dX11_countTable_24 rfl (Nat.le_refl _) (Nat.le_refl _) ⟨rfl, ?_⟩
    exact ⟨_, rfl, hJ1, hT1⟩
  · refine am_iload_n (q := 14) C dX11_countTable_13 rfl rfl ?_
    refine am_goto (q := 18) C dX11_countTable_14 (by decide) ?_
    refine am_intE (show _ = iZ ((min (sN σ i) u : Nat) : Int) from congrArg iZ (by omega)) ?_
    refine am_iload_n (q := 19) C dX11_countTable_18 rfl rfl ?_
    refine am_iload_n (q := 20) C dX11_countTable_19 rfl rfl ?_
    refine am_idivZ (q := 21) C dX11_countTable_20 rfl ⟨by omega, by omega⟩ ⟨by omega, by omega⟩ (by omega) (by omega) ?_
    refine am_intE (y := (iZ ((sN σ i / u : Nat) : Int))) (congrArg iZ rfl) ?_
    refine am_callV (q := 24) (As := [.int (iZ ((min (sN σ i) u : Nat) : Int)), .int (iZ ((sN σ i / u : Nat) : Int))]) (rest := []) C mb_X11_count im_X11_count se_X11_count ml_X11_180 cb_11 kk_191 (show 191 < 215 by decide) dX11_countTable_21 rfl (sp_X11_count hM.1 hM.2.1 (cx := min (sN σ i) u) (cy := sN σ i / u) (by omega) (by omega)) rfl rfl ⟨by decide, by decide⟩ ⟨Nat.le_refl _, Nat.le_refl _⟩ (Nat.le_of_ble_eq_true rfl) (am_rv (fun w' hw' => ?_))
    obtain ⟨J1, rfl, hJ1, hT1⟩ := hw'
    refine am_vret C T dX11_countTable_24 rfl (Nat.le_refl _) (Nat.le_refl _) ⟨rfl, ?_⟩
    exact ⟨_, rfl, hJ1, hT1⟩
set_option maxRecDepth 4000 in
theorem sp_X11_lay {σ : SG} (hM : atM I J σ) {p w : Int} (hp : rg p) (hw : rg w) : am_S G mX11_lay 6 0 0 [.ref 191, .int (iZ p), .int (iZ w)] (215, kK, kR, I, J) (am_qi (fun v w' => v = iZ (layA σ p w) ∧ ∃ (I' : Nat → Nat → Int32) (J' : Nat → Nat → Int64), w' = (215, kK, kR, I', J') ∧ atM I' J' (layT σ p w) ∧ frM I J I' J')) := by
  have hQ := hM.1
  have hK := hM.2.1
  have hm := hM.2.1.1
  have hL := hM.2.2.1
  refine am_spec (plainFor_of_name (by decide +kernel)) (Nat.le_of_ble_eq_true rfl) (L := [some (.ref 191), some (.int (iZ p)), some (.int (iZ w)), none, none, none]) rfl (fun X C T => ?_)
  refine am_aload_n (q := 1) C dX11_lay_0 rfl rfl ?_
  refine am_iload_n (q := 2) C dX11_lay_1 rfl rfl ?_
  refine am_iload_n (q := 3) C dX11_lay_2 rfl rfl ?_
  have hlr := lack_rg σ p w
  refine am_callV (q := 6) (As := [.int (iZ p), .int (iZ w)]) (rest := []) C mb_X11_lacks im_X11_lacks se_X11_lacks ml_X11_307 cb_11 kk_191 (show 191 < 215 by decide) dX11_lay_3 rfl (sp_X11_lacks hM hp hw) rfl rfl ⟨by decide, by decide⟩ ⟨Nat.le_refl _, Nat.le_refl _⟩ (Nat.le_of_ble_eq_true rfl) (am_rie ?_)
  refine am_istore_n (q := 7) (L' := [some (.ref 191), some (.int (iZ p)), some (.int (iZ w)), some (.int (iZ (lackA σ p w))), none, none]) C dX11_lay_6 rfl (by decide) rfl rfl ?_
  refine am_iload_n (q := 8) C dX11_lay_7 rfl rfl ?_
  refine am_ifZ_eq (q := 11) (tgt := 13) C dX11_lay_8 (by decide) rfl ⟨by omega, by omega⟩ (fun c1 => ?_) (fun c1 => ?_)
  · obtain ⟨hpr, hrf⟩ := lack_0 (by assumption)
    obtain ⟨i, rfl⟩ : ∃ q : Nat, p = q := ⟨p.toNat, by omega⟩
    have hi : i < 4 := by omega
    rw [Int.toNat_natCast] at hrf
    obtain ⟨hw1, hw2, hs1, hs2⟩ := refT_0 hrf
    obtain ⟨u, rfl⟩ : ∃ u : Nat, w = u := ⟨w.toNat, by omega⟩
    have hu : 1 ≤ u ∧ u ≤ 10 := ⟨by omega, by omega⟩
    obtain ⟨a1, a2, a3, a4, a5, a6⟩ := hM.2.2.2.2.2.2.2 i hi
    refine am_aload_n (q := 14) C dX11_lay_13 rfl rfl ?_
    refine am_iload_n (q := 15) C dX11_lay_14 rfl rfl ?_
    refine am_iload_n (q := 16) C dX11_lay_15 rfl rfl ?_
    refine am_callV (q := 19) (As := [.int (iZ (i : Int)), .int (iZ (u : Int))]) (rest := []) C mb_X11_countTable im_X11_countTable se_X11_countTable ml_X11_310 cb_11 kk_191 (show 191 < 215 by decide) dX11_lay_16 rfl (sp_X11_countTable hM hi hu) rfl rfl ⟨by decide, by decide⟩ ⟨Nat.le_refl _, Nat.le_refl _⟩ (Nat.le_of_ble_eq_true rfl) (am_rv (fun w' hw' => ?_))
    obtain ⟨J1, rfl, hJ1, hT1⟩ := hw'
    have hfS : frS I J I J1 := atM_J207 (σ := σ) hJ1
    have hM1 := hM.scr hfS
    have hbk : ∀ k, k < sN σ i → k % u ≤ min (sN σ i) u ∧ k / u ≤ sN σ i / u := fun k hk => by
      have h1 := Nat.mod_lt k (show u > 0 by omega)
      have h2 := Nat.mod_le k u
      have h3 : k / u ≤ sN σ i / u := Nat.div_le_div_right (by omega)
      omega
    refine am_iconst (q := 20) (v := iZ 1) C dX11_lay_19 rfl rfl ?_
    refine am_istore (q := 22) (L' := [some (.ref 191), some (.int (iZ (i : Int))), some (.int (iZ (u : Int))), some (.int (iZ (lackA σ (i : Int) (u : Int)))), some (.int (iZ 1)), none]) C dX11_lay_20 rfl (by decide) rfl rfl ?_
    refine am_iconst (q := 23) (v := iZ 0) C dX11_lay_22 rfl rfl ?_
    refine am_istore (q := 25) (L' := [some (.ref 191), some (.int (iZ (i : Int))), some (.int (iZ (u : Int))), some (.int (iZ (lackA σ (i : Int) (u : Int)))), some (.int (iZ 1)), some (.int (iZ 0))]) C dX11_lay_23 rfl (by decide) rfl rfl ?_
    have l1 : ∀ (fuel : Nat) (k : Nat), (k ≤ sN σ i) → (sN σ i - k) < fuel → (am_A G mX11_lay X (am_rm 6 0 0) 93 [some (.ref 191), some (.int (iZ (i : Int))), some (.int (iZ (u : Int))), some (.int (iZ (lackA σ (i : Int) (u : Int)))), some (.int (iZ (fiN (fitT σ.1 (limS (sS σ i)) u (sN σ i)) : Int))), none] [] (215, kK, kR, I, J1) 0 0) → am_A G mX11_lay X (am_rm 6 0 0) 25 [some (.ref 191), some (.int (iZ (i : Int))), some (.int (iZ (u : Int))), some (.int (iZ (lackA σ (i : Int) (u : Int)))), some (.int (iZ (fiN (fitT σ.1 (limS (sS σ i)) u k) : Int))), some (.int (iZ (k : Int)))] [] (215, kK, kR, I, J1) 0 0 := by
      intro fuel
      induction fuel with
      | zero => intro k hk hfu hk9; exact absurd hfu (Nat.not_lt_zero _)
      | succ fuel ih =>
        intro k hk hfu hk9
        have hmk0 := Nat.mod_lt k (show u > 0 by omega)
        have hdk0 : k / u ≤ k := Nat.div_le_self _ _
        have hdk1 : (0 : Int) ≤ ((k / u : Nat) : Int) := Int.natCast_nonneg _
        have hmk1 : (0 : Int) ≤ ((k % u : Nat) : Int) := Int.natCast_nonneg _
        have hfl := fiN_le (fitT σ.1 (limS (sS σ i)) u k)
        refine am_iload (q := 27) C dX11_lay_25 rfl rfl ?_
        refine am_aload_n (q := 28) C dX11_lay_27 rfl rfl ?_
        refine am_getR (q := 31) C fb_X11_80 dX11_lay_28 rfl rfl kk_191 (show 191 < 215 by decide) kr_191_46 ?_
        refine am_iload_n (q := 32) C dX11_lay_31 rfl rfl ?_
        refine am_ialoadZ (q := 33) i C dX11_lay_32 rfl kk_213 (show 213 < 215 by decide) rfl (by omega) (by decide) ?_
        refine am_intE (y := (iZ (sN σ i : Int))) a2 ?_
        refine am_icmpZ_ge (q := 36) (tgt := 93) C dX11_lay_33 (by decide) rfl ⟨by omega, by omega⟩ ⟨by omega, by omega⟩ (fun e1 => ?_) (fun e1 => ?_)
        · refine am_wkA (L1 := [some (.ref 191), some (.int (iZ (i : Int))), some (.int (iZ (u : Int))), some (.int (iZ (lackA σ (i : Int) (u : Int)))), some (.int (iZ (fiN (fitT σ.1 (limS (sS σ i)) u k) : Int))), none]) ⟨rfl, ⟨rfl, ⟨rfl, ⟨rfl, ⟨rfl, trivial⟩⟩⟩⟩⟩ ?_
          have eq : k = sN σ i := by omega
          rw [eq]
          exact hk9
        · refine am_iload (q := 38) C dX11_lay_36 rfl rfl ?_
          refine am_ifZ_eq (q := 41) (tgt := 84) C dX11_lay_38 (by decide) rfl ⟨by omega, by omega⟩ (fun e2 => ?_) (fun e2 => ?_)
          · refine am_iconst (q := 85) (v := iZ 0) C dX11_lay_84 rfl rfl ?_
            refine am_istore (q := 87) (L' := [some (.ref 191), some (.int (iZ (i : Int))), some (.int (iZ (u : Int))), some (.int (iZ (lackA σ (i : Int) (u : Int)))), some (.int (iZ 0)), some (.int (iZ (k : Int)))]) C dX11_lay_85 rfl (by decide) rfl rfl ?_
            refine am_iincZ (q := 90) (L' := [some (.ref 191), some (.int (iZ (i : Int))), some (.int (iZ (u : Int))), some (.int (iZ (lackA σ (i : Int) (u : Int)))), some (.int (iZ 0)), some (.int (iZ ((k + 1 : Nat) : Int)))]) C dX11_lay_87 rfl rfl (by omega) (by decide) rfl rfl ?_
            refine am_goto (q := 25) C dX11_lay_90 (by decide) ?_
            have e9 : fiN (fitT σ.1 (limS (sS σ i)) u (k + 1)) = 0 := by
              show fiN (fitT σ.1 (limS (sS σ i)) u k && decide (Wy σ.1 (pm σ.1) (k % u) (k / u) ≤ limS (sS σ i))) = _
              by_cases hz : fitT σ.1 (limS (sS σ i)) u k = true
              · have h1 := fiN_1.mpr hz
                rw [hz, decide_eq_false (by omega)]; rfl
              · rw [Bool.not_eq_true] at hz
                rw [hz]; rfl
            have h9 := ih (k + 1) (by omega) (by omega) hk9
            rw [e9] at h9
            exact h9
          · refine am_aload_n (q := 42) C dX11_lay_41 rfl rfl ?_
            refine am_getR (q := 45) C fb_X11_62 dX11_lay_42 rfl rfl kk_191 (show 191 < 215 by decide) kr_191_25 ?_
            refine am_iconst (q := 46) (v := iZ 0) C dX11_lay_45 rfl rfl ?_
            refine am_iload (q := 48) C dX11_lay_46 rfl rfl ?_
            refine am_iload_n (q := 49) C dX11_lay_48 rfl rfl ?_
            refine am_iremZ (q := 50) C dX11_lay_49 rfl ⟨by omega, by omega⟩ ⟨by omega, by omega⟩ (by omega) (by omega) ?_
            refine am_intE (y := (iZ ((k % u : Nat) : Int))) (congrArg iZ rfl) ?_
            refine am_iload (q := 52) C dX11_lay_50 rfl rfl ?_
            refine am_iload_n (q := 53) C dX11_lay_52 rfl rfl ?_
            refine am_idivZ (q := 54) C dX11_lay_53 rfl ⟨by omega, by omega⟩ ⟨by omega, by omega⟩ (by omega) (by omega) ?_
            refine am_intE (y := (iZ ((k / u : Nat) : Int))) (congrArg iZ rfl) ?_
            refine am_callS (q := 57) (As := [.int (iZ 0), .int (iZ ((k % u : Nat) : Int)), .int (iZ ((k / u : Nat) : Int))]) (rest := [.ref 207]) C mb_X11_place st_X11_place ml_X11_171 dX11_lay_54 rfl (sp_X11_place _ _ _) rfl rfl ⟨by decide, by decide⟩ ⟨Nat.le_refl _, Nat.le_refl _⟩ (Nat.le_of_ble_eq_true rfl) (am_rie ?_)
            refine am_laloadZ (q := 58) ((0 * 61 + k / u) * 61 + k % u) C dX11_lay_57 rfl kk_207 (show 207 < 215 by decide) (by omega) (by omega) (by decide) ?_
            refine am_longE (y := (lN (Wy σ.1 (pm σ.1) (k % u) (k / u)))) (hT1 0 (k % u) (k / u) (by omega) (hbk k (by omega)).1 (hbk k (by omega)).2) ?_
            refine am_aload_n (q := 59) C dX11_lay_58 rfl rfl ?_
            refine am_getR (q := 62) C fb_X11_77 dX11_lay_59 rfl rfl kk_191 (show 191 < 215 by decide) kr_191_45 ?_
            refine am_iload_n (q := 63) C dX11_lay_62 rfl rfl ?_
            refine am_ialoadZ (q := 64) i C dX11_lay_63 rfl kk_212 (show 212 < 215 by decide) rfl (by omega) (by decide) ?_
            refine am_intE (y := (iZ (sS σ i))) a1 ?_
            refine am_ifZ_ne (q := 67) (tgt := 73) C dX11_lay_64 (by decide) rfl ⟨by omega, by omega⟩ (fun e3 => ?_) (fun e3 => ?_)
            · refine am_ldc2 (q := 76) C dX11_lay_73 rfl ck_X11_315 ?_
              refine am_longE (y := lN 32767) rfl ?_
              refine am_longE (show _ = lN (limS (sS σ i)) from congrArg lN (by unfold limS; first | (rw [if_pos (by omega)]) | (rw [if_neg (by omega)]))) ?_
              refine am_lcmp (q := 77) C dX11_lay_76 rfl ?_
              refine am_if_gt (q := 80) (tgt := 84) C dX11_lay_77 (by decide) rfl (fun e4 => ?_) (fun e4 => ?_)
              · have e4 := ((lg_cmp_gt _ _).trans (pk_lLT (by have := limS_le (sS σ i); omega) (by have := Wy_le σ.1 (q := pm σ.1) hM.2.1.1 (k % u) (k / u); omega))).mp e4
                refine am_iconst (q := 85) (v := iZ 0) C dX11_lay_84 rfl rfl ?_
                refine am_istore (q := 87) (L' := [some (.ref 191), some (.int (iZ (i : Int))), some (.int (iZ (u : Int))), some (.int (iZ (lackA σ (i : Int) (u : Int)))), some (.int (iZ 0)), some (.int (iZ (k : Int)))]) C dX11_lay_85 rfl (by decide) rfl rfl ?_
                refine am_iincZ (q := 90) (L' := [some (.ref 191), some (.int (iZ (i : Int))), some (.int (iZ (u : Int))), some (.int (iZ (lackA σ (i : Int) (u : Int)))), some (.int (iZ 0)), some (.int (iZ ((k + 1 : Nat) : Int)))]) C dX11_lay_87 rfl rfl (by omega) (by decide) rfl rfl ?_
                refine am_goto (q := 25) C dX11_lay_90 (by decide) ?_
                have e9 : fiN (fitT σ.1 (limS (sS σ i)) u (k + 1)) = 0 := by
                  show fiN (fitT σ.1 (limS (sS σ i)) u k && decide (Wy σ.1 (pm σ.1) (k % u) (k / u) ≤ limS (sS σ i))) = _
                  by_cases hz : fitT σ.1 (limS (sS σ i)) u k = true
                  · have h1 := fiN_1.mpr hz
                    rw [hz, decide_eq_false (by omega)]; rfl
                  · rw [Bool.not_eq_true] at hz
                    rw [hz]; rfl
                have h9 := ih (k + 1) (by omega) (by omega) hk9
                rw [e9] at h9
                exact h9
              · have e4 : ¬ (_) := fun z => e4 (((lg_cmp_gt _ _).trans (pk_lLT (by have := limS_le (sS σ i); omega) (by have := Wy_le σ.1 (q := pm σ.1) hM.2.1.1 (k % u) (k / u); omega))).mpr z)
                refine am_iconst (q := 81) (v := iZ 1) C dX11_lay_80 rfl rfl ?_
                refine am_goto (q := 85) C dX11_lay_81 (by decide) ?_
                refine am_istore (q := 87) (L' := [some (.ref 191), some (.int (iZ (i : Int))), some (.int (iZ (u : Int))), some (.int (iZ (lackA σ (i : Int) (u : Int)))), some (.int (iZ 1)), some (.int (iZ (k : Int)))]) C dX11_lay_85 rfl (by decide) rfl rfl ?_
                refine am_iincZ (q := 90) (L' := [some (.ref 191), some (.int (iZ (i : Int))), some (.int (iZ (u : Int))), some (.int (iZ (lackA σ (i : Int) (u : Int)))), some (.int (iZ 1)), some (.int (iZ ((k + 1 : Nat) : Int)))]) C dX11_lay_87 rfl rfl (by omega) (by decide) rfl rfl ?_
                refine am_goto (q := 25) C dX11_lay_90 (by decide) ?_
                have e9 : fiN (fitT σ.1 (limS (sS σ i)) u (k + 1)) = 1 := by
                  show fiN (fitT σ.1 (limS (sS σ i)) u k && decide (Wy σ.1 (pm σ.1) (k % u) (k / u) ≤ limS (sS σ i))) = _
                  rw [fiN_1.mp (show fiN (fitT σ.1 (limS (sS σ i)) u k) = 1 by omega), decide_eq_true (by omega)]; rfl
                have h9 := ih (k + 1) (by omega) (by omega) hk9
                rw [e9] at h9
                exact h9
            · refine am_ldc2 (q := 70) C dX11_lay_67 rfl ck_X11_313 ?_
              refine am_longE (y := lN 127) rfl ?_
              refine am_goto (q := 76) C dX11_lay_70 (by decide) ?_
              refine am_longE (show _ = lN (limS (sS σ i)) from congrArg lN (by unfold limS; first | (rw [if_pos (by omega)]) | (rw [if_neg (by omega)]))) ?_
              refine am_lcmp (q := 77) C dX11_lay_76 rfl ?_
              refine am_if_gt (q := 80) (tgt := 84) C dX11_lay_77 (by decide) rfl (fun e5 => ?_) (fun e5 => ?_)
              · have e5 := ((lg_cmp_gt _ _).trans (pk_lLT (by have := limS_le (sS σ i); omega) (by have := Wy_le σ.1 (q := pm σ.1) hM.2.1.1 (k % u) (k / u); omega))).mp e5
                refine am_iconst (q := 85) (v := iZ 0) C dX11_lay_84 rfl rfl ?_
                refine am_istore (q := 87) (L' := [some (.ref 191), some (.int (iZ (i : Int))), some (.int (iZ (u : Int))), some (.int (iZ (lackA σ (i : Int) (u : Int)))), some (.int (iZ 0)), some (.int (iZ (k : Int)))]) C dX11_lay_85 rfl (by decide) rfl rfl ?_
                refine am_iincZ (q := 90) (L' := [some (.ref 191), some (.int (iZ (i : Int))), some (.int (iZ (u : Int))), some (.int (iZ (lackA σ (i : Int) (u : Int)))), some (.int (iZ 0)), some (.int (iZ ((k + 1 : Nat) : Int)))]) C dX11_lay_87 rfl rfl (by omega) (by decide) rfl rfl ?_
                refine am_goto (q := 25) C dX11_lay_90 (by decide) ?_
                have e9 : fiN (fitT σ.1 (limS (sS σ i)) u (k + 1)) = 0 := by
                  show fiN (fitT σ.1 (limS (sS σ i)) u k && decide (Wy σ.1 (pm σ.1) (k % u) (k / u) ≤ limS (sS σ i))) = _
                  by_cases hz : fitT σ.1 (limS (sS σ i)) u k = true
                  · have h1 := fiN_1.mpr hz
                    rw [hz, decide_eq_false (by omega)]; rfl
                  · rw [Bool.not_eq_true] at hz
                    rw [hz]; rfl
                have h9 := ih (k + 1) (by omega) (by omega) hk9
                rw [e9] at h9
                exact h9
              · have e5 : ¬ (_) := fun z => e5 (((lg_cmp_gt _ _).trans (pk_lLT (by have := limS_le (sS σ i); omega) (by have := Wy_le σ.1 (q := pm σ.1) hM.2.1.1 (k % u) (k / u); omega))).mpr z)
                refine am_iconst (q := 81) (v := iZ 1) C dX11_lay_80 rfl rfl ?_
                refine am_goto (q := 85) C dX11_lay_81 (by decide) ?_
                refine am_istore (q := 87) (L' := [some (.ref 191), some (.int (iZ (i : Int))), some (.int (iZ (u : Int))), some (.int (iZ (lackA σ (i : Int) (u : Int)))), some (.int (iZ 1)), some (.int (iZ (k : Int)))]) C dX11_lay_85 rfl (by decide) rfl rfl ?_
                refine am_iincZ (q := 90) (L' := [some (.ref 191), some (.int (iZ (i : Int))), some (.int (iZ (u : Int))), some (.int (iZ (lackA σ (i : Int) (u : Int)))), some (.int (iZ 1)), some (.int (iZ ((k + 1 : Nat) : Int)))]) C dX11_lay_87 rfl rfl (by omega) (by decide) rfl rfl ?_
                refine am_goto (q := 25) C dX11_lay_90 (by decide) ?_
                have e9 : fiN (fitT σ.1 (limS (sS σ i)) u (k + 1)) = 1 := by
                  show fiN (fitT σ.1 (limS (sS σ i)) u k && decide (Wy σ.1 (pm σ.1) (k % u) (k / u) ≤ limS (sS σ i))) = _
                  rw [fiN_1.mp (show fiN (fitT σ.1 (limS (sS σ i)) u k) = 1 by omega), decide_eq_true (by omega)]; rfl
                have h9 := ih (k + 1) (by omega) (by omega) hk9
                rw [e9] at h9
                exact h9
    refine l1 (sN σ i + 1) 0 (Nat.zero_le _) (by omega) ?_
    by_cases hfit : fitT σ.1 (limS (sS σ i)) u (sN σ i) = true
    · rw [fiN_1.mpr hfit]
      have l2 : ∀ (fuel : Nat) (k : Nat) (J2 : Nat → Nat → Int64), (k ≤ sN σ i) → (∀ x, x ≠ 214 → J2 x = J1 x) → (∀ j, j < 60 → J2 214 (60 * i + j) = if j < k then lN (Wy σ.1 (pm σ.1) (j % u) (j / u)) else sF σ i j) → (∀ j, j < 60 * i ∨ 60 * i + 60 ≤ j → J2 214 j = J1 214 j) → (sN σ i - k) < fuel → am_A G mX11_lay X (am_rm 6 0 0) 96 [some (.ref 191), some (.int (iZ (i : Int))), some (.int (iZ (u : Int))), some (.int (iZ (lackA σ (i : Int) (u : Int)))), some (.int (iZ 1)), some (.int (iZ (k : Int)))] [] (215, kK, kR, I, J2) 0 0 := by
        intro fuel
        induction fuel with
        | zero => intro k J2 hk hJ2 hz hO hf; exact absurd hf (Nat.not_lt_zero _)
        | succ fuel ih =>
          intro k J2 hk hJ2 hz hO hf
          have hmk0 := Nat.mod_lt k (show u > 0 by omega)
          have hdk0 : k / u ≤ k := Nat.div_le_self _ _
          have hdk1 : (0 : Int) ≤ ((k / u : Nat) : Int) := Int.natCast_nonneg _
          have hmk1 : (0 : Int) ≤ ((k % u : Nat) : Int) := Int.natCast_nonneg _
          refine am_iload (q := 98) C dX11_lay_96 rfl rfl ?_
          refine am_aload_n (q := 99) C dX11_lay_98 rfl rfl ?_
          refine am_getR (q := 102) C fb_X11_80 dX11_lay_99 rfl rfl kk_191 (show 191 < 215 by decide) kr_191_46 ?_
          refine am_iload_n (q := 103) C dX11_lay_102 rfl rfl ?_
          refine am_ialoadZ (q := 104) i C dX11_lay_103 rfl kk_213 (show 213 < 215 by decide) rfl (by omega) (by decide) ?_
          refine am_intE (y := (iZ (sN σ i : Int))) a2 ?_
          refine am_icmpZ_ge (q := 107) (tgt := 147) C dX11_lay_104 (by decide) rfl ⟨by omega, by omega⟩ ⟨by omega, by omega⟩ (fun g1 => ?_) (fun g1 => ?_)
          · refine am_iload (q := 149) C dX11_lay_147 rfl rfl ?_
            refine am_ifZ_eq (q := 152) (tgt := 161) C dX11_lay_149 (by decide) rfl ⟨by omega, by omega⟩ (fun g2 => ?_) (fun g2 => ?_)
            · exact absurd g2 (by decide)
            · refine am_aload_n (q := 153) C dX11_lay_152 rfl rfl ?_
              refine am_getR (q := 156) C fb_X11_80 dX11_lay_153 rfl rfl kk_191 (show 191 < 215 by decide) kr_191_46 ?_
              refine am_iload_n (q := 157) C dX11_lay_156 rfl rfl ?_
              refine am_ialoadZ (q := 158) i C dX11_lay_157 rfl kk_213 (show 213 < 215 by decide) rfl (by omega) (by decide) ?_
              refine am_intE (y := (iZ (sN σ i : Int))) a2 ?_
              refine am_goto (q := 163) C dX11_lay_158 (by decide) ?_
              refine am_iret C T dX11_lay_163 rfl (Nat.le_refl _) (Nat.le_refl _) ⟨_, rfl, ?_⟩
              have e1 : layA σ (i : Int) (u : Int) = (sN σ i : Int) := by
                unfold layA
                simp only [Int.toNat_natCast]
                rw [if_pos (by omega), if_pos hrf, if_pos hfit]
              have e2 : layT σ (i : Int) (u : Int) = shS σ i (sS σ i) (sN σ i) (layF σ i u) := by
                unfold layT
                simp only [Int.toNat_natCast]
                rw [if_pos (by omega), if_pos hrf, if_pos hfit]
              rw [e1, e2]
              refine ⟨rfl, _, _, rfl, atM_sh hM1 ⟨a1, a2, a3, a4, a5, fun j hj => ?_⟩ (fun x _ _ => rfl) hJ2 (fun j _ => ⟨rfl, rfl⟩) (fun j q hj hq => hO _ (by omega)), frM_tr hfS.M (fun x hx => ⟨rfl, hJ2 x (by omega)⟩)⟩
              rw [hz j hj]
              unfold layF
              rw [show k = sN σ i by omega]
          · refine am_iload (q := 109) C dX11_lay_107 rfl rfl ?_
            refine am_ifZ_eq (q := 112) (tgt := 147) C dX11_lay_109 (by decide) rfl ⟨by omega, by omega⟩ (fun g3 => ?_) (fun g3 => ?_)
            · exact absurd g3 (by decide)
            · refine am_aload_n (q := 113) C dX11_lay_112 rfl rfl ?_
              refine am_getR (q := 116) C fb_X11_83 dX11_lay_113 rfl rfl kk_191 (show 191 < 215 by decide) kr_191_47 ?_
              refine am_bipush (q := 118) (v := iZ 60) C dX11_lay_116 rfl rfl ?_
              refine am_iload_n (q := 119) C dX11_lay_118 rfl rfl ?_
              refine am_imulZ (q := 120) C dX11_lay_119 rfl ?_
              refine am_iload (q := 122) C dX11_lay_120 rfl rfl ?_
              refine am_iaddZ (q := 123) C dX11_lay_122 rfl ?_
              refine am_aload_n (q := 124) C dX11_lay_123 rfl rfl ?_
              refine am_getR (q := 127) C fb_X11_62 dX11_lay_124 rfl rfl kk_191 (show 191 < 215 by decide) kr_191_25 ?_
              refine am_iconst (q := 128) (v := iZ 0) C dX11_lay_127 rfl rfl ?_
              refine am_iload (q := 130) C dX11_lay_128 rfl rfl ?_
              refine am_iload_n (q := 131) C dX11_lay_130 rfl rfl ?_
              refine am_iremZ (q := 132) C dX11_lay_131 rfl ⟨by omega, by omega⟩ ⟨by omega, by omega⟩ (by omega) (by omega) ?_
              refine am_intE (y := (iZ ((k % u : Nat) : Int))) (congrArg iZ rfl) ?_
              refine am_iload (q := 134) C dX11_lay_132 rfl rfl ?_
              refine am_iload_n (q := 135) C dX11_lay_134 rfl rfl ?_
              refine am_idivZ (q := 136) C dX11_lay_135 rfl ⟨by omega, by omega⟩ ⟨by omega, by omega⟩ (by omega) (by omega) ?_
              refine am_intE (y := (iZ ((k / u : Nat) : Int))) (congrArg iZ rfl) ?_
              refine am_callS (q := 139) (As := [.int (iZ 0), .int (iZ ((k % u : Nat) : Int)), .int (iZ ((k / u : Nat) : Int))]) (rest := [.ref 207, .int (iZ (60 * (i : Int) + (k : Int))), .ref 214]) C mb_X11_place st_X11_place ml_X11_171 dX11_lay_136 rfl (sp_X11_place _ _ _) rfl rfl ⟨by decide, by decide⟩ ⟨Nat.le_refl _, Nat.le_refl _⟩ (Nat.le_of_ble_eq_true rfl) (am_rie ?_)
              refine am_laloadZ (q := 140) ((0 * 61 + k / u) * 61 + k % u) C dX11_lay_139 rfl kk_207 (show 207 < 215 by decide) (by omega) (by omega) (by decide) ?_
              refine am_longE (y := (lN (Wy σ.1 (pm σ.1) (k % u) (k / u)))) (by rw [hJ2 207 (by decide)]; exact hT1 0 (k % u) (k / u) (by omega) (hbk k (by omega)).1 (hbk k (by omega)).2) ?_
              refine am_lastoreZ (q := 141) (60 * i + k) C dX11_lay_140 rfl kk_214 (show 214 < 215 by decide) (by omega) (by omega) (by decide) ?_
              refine am_iincZ (q := 144) (L' := [some (.ref 191), some (.int (iZ (i : Int))), some (.int (iZ (u : Int))), some (.int (iZ (lackA σ (i : Int) (u : Int)))), some (.int (iZ 1)), some (.int (iZ ((k + 1 : Nat) : Int)))]) C dX11_lay_141 rfl rfl (by omega) (by decide) rfl rfl ?_
              refine am_goto (q := 96) C dX11_lay_144 (by decide) ?_
              refine ih (k + 1) _ (by omega) (fun x hx => by rw [am_up_row _ _ _ _ hx]; exact hJ2 x hx) (fun j hj => ?_) (fun j hj => ?_) (by omega)
              · by_cases e : j = k
                · rw [e, am_up_eq, if_pos (by omega)]
                · rw [am_up_ne _ _ _ _ (Or.inr (by omega)), hz j hj]
                  by_cases e2 : j < k
                  · rw [if_pos e2, if_pos (by omega)]
                  · rw [if_neg e2, if_neg (by omega)]
              · rw [am_up_ne _ _ _ _ (Or.inr (by omega))]; exact hO j hj
      refine am_iconst (q := 94) (v := iZ 0) C dX11_lay_93 rfl rfl ?_
      refine am_istore (q := 96) (L' := [some (.ref 191), some (.int (iZ (i : Int))), some (.int (iZ (u : Int))), some (.int (iZ (lackA σ (i : Int) (u : Int)))), some (.int (iZ 1)), some (.int (iZ 0))]) C dX11_lay_94 rfl (by decide) rfl rfl ?_
      refine l2 (sN σ i + 1) 0 J1 (by omega) (fun x _ => rfl) (fun j hj => ?_) (fun j _ => rfl) (by omega)
      rw [if_neg (Nat.not_lt_zero _), hJ1 214 (by decide)]; exact a6 j hj
    · rw [show fiN (fitT σ.1 (limS (sS σ i)) u (sN σ i)) = 0 from if_neg hfit]
      refine am_iconst (q := 94) (v := iZ 0) C dX11_lay_93 rfl rfl ?_
      refine am_istore (q := 96) (L' := [some (.ref 191), some (.int (iZ (i : Int))), some (.int (iZ (u : Int))), some (.int (iZ (lackA σ (i : Int) (u : Int)))), some (.int (iZ 0)), some (.int (iZ 0))]) C dX11_lay_94 rfl (by decide) rfl rfl ?_
      refine am_iload (q := 98) C dX11_lay_96 rfl rfl ?_
      refine am_aload_n (q := 99) C dX11_lay_98 rfl rfl ?_
      refine am_getR (q := 102) C fb_X11_80 dX11_lay_99 rfl rfl kk_191 (show 191 < 215 by decide) kr_191_46 ?_
      refine am_iload_n (q := 103) C dX11_lay_102 rfl rfl ?_
      refine am_ialoadZ (q := 104) i C dX11_lay_103 rfl kk_213 (show 213 < 215 by decide) rfl (by omega) (by decide) ?_
      refine am_intE (y := (iZ (sN σ i : Int))) a2 ?_
      refine am_icmpZ_ge (q := 107) (tgt := 147) C dX11_lay_104 (by decide) rfl ⟨by omega, by omega⟩ ⟨by omega, by omega⟩ (fun n1 => ?_) (fun n1 => ?_)
      · refine am_iload (q := 149) C dX11_lay_147 rfl rfl ?_
        refine am_ifZ_eq (q := 152) (tgt := 161) C dX11_lay_149 (by decide) rfl ⟨by omega, by omega⟩ (fun n2 => ?_) (fun n2 => ?_)
        · refine am_bipush (q := 163) (v := iZ (-16)) C dX11_lay_161 rfl rfl ?_
          refine am_iret C T dX11_lay_163 rfl (Nat.le_refl _) (Nat.le_refl _) ⟨_, rfl, ?_⟩
          have e1 : layA σ (i : Int) (u : Int) = -16 := by
            unfold layA
            simp only [Int.toNat_natCast]
            rw [if_pos (by omega), if_pos hrf, if_neg hfit]
          have e2 : layT σ (i : Int) (u : Int) = σ := by
            unfold layT
            simp only [Int.toNat_natCast]
            rw [if_pos (by omega), if_pos hrf, if_neg hfit]
          rw [e1, e2]
          exact ⟨rfl, _, _, rfl, hM1, hfS.M⟩
        · exact absurd n2 (by decide)
      · refine am_iload (q := 109) C dX11_lay_107 rfl rfl ?_
        refine am_ifZ_eq (q := 112) (tgt := 147) C dX11_lay_109 (by decide) rfl ⟨by omega, by omega⟩ (fun n3 => ?_) (fun n3 => ?_)
        · refine am_iload (q := 149) C dX11_lay_147 rfl rfl ?_
          refine am_ifZ_eq (q := 152) (tgt := 161) C dX11_lay_149 (by decide) rfl ⟨by omega, by omega⟩ (fun n4 => ?_) (fun n4 => ?_)
          · refine am_bipush (q := 163) (v := iZ (-16)) C dX11_lay_161 rfl rfl ?_
            refine am_iret C T dX11_lay_163 rfl (Nat.le_refl _) (Nat.le_refl _) ⟨_, rfl, ?_⟩
            have e1 : layA σ (i : Int) (u : Int) = -16 := by
              unfold layA
              simp only [Int.toNat_natCast]
              rw [if_pos (by omega), if_pos hrf, if_neg hfit]
            have e2 : layT σ (i : Int) (u : Int) = σ := by
              unfold layT
              simp only [Int.toNat_natCast]
              rw [if_pos (by omega), if_pos hrf, if_neg hfit]
            rw [e1, e2]
            exact ⟨rfl, _, _, rfl, hM1, hfS.M⟩
          · exact absurd n4 (by decide)
        · exact absurd n3 (by decide)
  · refine am_iload_n (q := 12) C dX11_lay_11 rfl rfl ?_
    refine am_iret C T dX11_lay_12 rfl (Nat.le_refl _) (Nat.le_refl _) ⟨_, rfl, ?_⟩
    rw [(lay_no (by assumption)).1, (lay_no (by assumption)).2.1]
    exact ⟨rfl, _, _, rfl, hM, frM_refl⟩
set_option maxRecDepth 4000 in
theorem sp_X11_check {σ : SG} (hM : atM I J σ) {p w : Int} (hp : rg p) (hw : rg w) : am_S G mX11_check 6 0 0 [.ref 191, .int (iZ p), .int (iZ w)] (215, kK, kR, I, J) (am_qi (fun v w' => v = iZ (checkA σ p w) ∧ ∃ (I' : Nat → Nat → Int32) (J' : Nat → Nat → Int64), w' = (215, kK, kR, I', J') ∧ atM I' J' (σ) ∧ frM I J I' J')) := by
  have hQ := hM.1
  have hK := hM.2.1
  have hm := hM.2.1.1
  have hL := hM.2.2.1
  refine am_spec (plainFor_of_name (by decide +kernel)) (Nat.le_of_ble_eq_true rfl) (L := [some (.ref 191), some (.int (iZ p)), some (.int (iZ w)), none, none]) rfl (fun X C T => ?_)
  refine am_aload_n (q := 1) C dX11_check_0 rfl rfl ?_
  refine am_iload_n (q := 2) C dX11_check_1 rfl rfl ?_
  refine am_iload_n (q := 3) C dX11_check_2 rfl rfl ?_
  have hlr := lack_rg σ p w
  refine am_callV (q := 6) (As := [.int (iZ p), .int (iZ w)]) (rest := []) C mb_X11_lacks im_X11_lacks se_X11_lacks ml_X11_307 cb_11 kk_191 (show 191 < 215 by decide) dX11_check_3 rfl (sp_X11_lacks hM hp hw) rfl rfl ⟨by decide, by decide⟩ ⟨Nat.le_refl _, Nat.le_refl _⟩ (Nat.le_of_ble_eq_true rfl) (am_rie ?_)
  refine am_istore_n (q := 7) (L' := [some (.ref 191), some (.int (iZ p)), some (.int (iZ w)), some (.int (iZ (lackA σ p w))), none]) C dX11_check_6 rfl (by decide) rfl rfl ?_
  refine am_iload_n (q := 8) C dX11_check_7 rfl rfl ?_
  refine am_ifZ_eq (q := 11) (tgt := 13) C dX11_check_8 (by decide) rfl ⟨by omega, by omega⟩ (fun c1 => ?_) (fun c1 => ?_)
  · obtain ⟨hpr, hrf⟩ := lack_0 (by assumption)
    obtain ⟨i, rfl⟩ : ∃ q : Nat, p = q := ⟨p.toNat, by omega⟩
    have hi : i < 4 := by omega
    rw [Int.toNat_natCast] at hrf
    obtain ⟨hw1, hw2, hs1, hs2⟩ := refT_0 hrf
    obtain ⟨u, rfl⟩ : ∃ u : Nat, w = u := ⟨w.toNat, by omega⟩
    have hu : 1 ≤ u ∧ u ≤ 10 := ⟨by omega, by omega⟩
    obtain ⟨a1, a2, a3, a4, a5, a6⟩ := hM.2.2.2.2.2.2.2 i hi
    refine am_aload_n (q := 14) C dX11_check_13 rfl rfl ?_
    refine am_iload_n (q := 15) C dX11_check_14 rfl rfl ?_
    refine am_iload_n (q := 16) C dX11_check_15 rfl rfl ?_
    refine am_callV (q := 19) (As := [.int (iZ (i : Int)), .int (iZ (u : Int))]) (rest := []) C mb_X11_countTable im_X11_countTable se_X11_countTable ml_X11_310 cb_11 kk_191 (show 191 < 215 by decide) dX11_check_16 rfl (sp_X11_countTable hM hi hu) rfl rfl ⟨by decide, by decide⟩ ⟨Nat.le_refl _, Nat.le_refl _⟩ (Nat.le_of_ble_eq_true rfl) (am_rv (fun w' hw' => ?_))
    obtain ⟨J1, rfl, hJ1, hT1⟩ := hw'
    have hfS : frS I J I J1 := atM_J207 (σ := σ) hJ1
    have hM1 := hM.scr hfS
    have hbk : ∀ k, k < sN σ i → k % u ≤ min (sN σ i) u ∧ k / u ≤ sN σ i / u := fun k hk => by
      have h1 := Nat.mod_lt k (show u > 0 by omega)
      have h2 := Nat.mod_le k u
      have h3 : k / u ≤ sN σ i / u := Nat.div_le_div_right (by omega)
      omega
    refine am_iconst (q := 20) (v := iZ 0) C dX11_check_19 rfl rfl ?_
    refine am_istore (q := 22) (L' := [some (.ref 191), some (.int (iZ (i : Int))), some (.int (iZ (u : Int))), some (.int (iZ (lackA σ (i : Int) (u : Int)))), some (.int (iZ 0))]) C dX11_check_20 rfl (by decide) rfl rfl ?_
    have l1 : ∀ (fuel : Nat) (k : Nat), (k ≤ sN σ i) → (fstN (chkB σ i u) (sN σ i - k) k = fstN (chkB σ i u) (sN σ i) 0) → (sN σ i - k) < fuel → am_A G mX11_check X (am_rm 6 0 0) 22 [some (.ref 191), some (.int (iZ (i : Int))), some (.int (iZ (u : Int))), some (.int (iZ (lackA σ (i : Int) (u : Int)))), some (.int (iZ (k : Int)))] [] (215, kK, kR, I, J1) 0 0 := by
      intro fuel
      induction fuel with
      | zero => intro k hk hq hf; exact absurd hf (Nat.not_lt_zero _)
      | succ fuel ih =>
        intro k hk hq hf
        have hmk0 := Nat.mod_lt k (show u > 0 by omega)
        have hdk0 : k / u ≤ k := Nat.div_le_self _ _
        have hdk1 : (0 : Int) ≤ ((k / u : Nat) : Int) := Int.natCast_nonneg _
        have hmk1 : (0 : Int) ≤ ((k % u : Nat) : Int) := Int.natCast_nonneg _
        refine am_iload (q := 24) C dX11_check_22 rfl rfl ?_
        refine am_aload_n (q := 25) C dX11_check_24 rfl rfl ?_
        refine am_getR (q := 28) C fb_X11_80 dX11_check_25 rfl rfl kk_191 (show 191 < 215 by decide) kr_191_46 ?_
        refine am_iload_n (q := 29) C dX11_check_28 rfl rfl ?_
        refine am_ialoadZ (q := 30) i C dX11_check_29 rfl kk_213 (show 213 < 215 by decide) rfl (by omega) (by decide) ?_
        refine am_intE (y := (iZ (sN σ i : Int))) a2 ?_
        refine am_icmpZ_ge (q := 33) (tgt := 75) C dX11_check_30 (by decide) rfl ⟨by omega, by omega⟩ ⟨by omega, by omega⟩ (fun e1 => ?_) (fun e1 => ?_)
        · refine am_bipush (q := 77) (v := iZ (-3)) C dX11_check_75 rfl rfl ?_
          refine am_iret C T dX11_check_77 rfl (Nat.le_refl _) (Nat.le_refl _) ⟨_, rfl, ?_⟩
          have e1 : checkA σ (i : Int) (u : Int) = -3 := by
            unfold checkA
            simp only [Int.toNat_natCast]
            rw [if_pos (by omega), if_pos hrf, ← hq]
            rw [show sN σ i - k = 0 by omega]; rfl
          rw [e1]
          exact ⟨rfl, _, _, rfl, hM1, hfS.M⟩
        · refine am_aload_n (q := 34) C dX11_check_33 rfl rfl ?_
          refine am_getR (q := 37) C fb_X11_83 dX11_check_34 rfl rfl kk_191 (show 191 < 215 by decide) kr_191_47 ?_
          refine am_bipush (q := 39) (v := iZ 60) C dX11_check_37 rfl rfl ?_
          refine am_iload_n (q := 40) C dX11_check_39 rfl rfl ?_
          refine am_imulZ (q := 41) C dX11_check_40 rfl ?_
          refine am_iload (q := 43) C dX11_check_41 rfl rfl ?_
          refine am_iaddZ (q := 44) C dX11_check_43 rfl ?_
          refine am_laloadZ (q := 45) (60 * i + k) C dX11_check_44 rfl kk_214 (show 214 < 215 by decide) (by omega) (by omega) (by decide) ?_
          refine am_longE (y := (sF σ i k)) (by rw [hJ1 214 (by decide)]; exact a6 k (by omega)) ?_
          refine am_aload_n (q := 46) C dX11_check_45 rfl rfl ?_
          refine am_getR (q := 49) C fb_X11_62 dX11_check_46 rfl rfl kk_191 (show 191 < 215 by decide) kr_191_25 ?_
          refine am_iconst (q := 50) (v := iZ 0) C dX11_check_49 rfl rfl ?_
          refine am_iload (q := 52) C dX11_check_50 rfl rfl ?_
          refine am_iload_n (q := 53) C dX11_check_52 rfl rfl ?_
          refine am_iremZ (q := 54) C dX11_check_53 rfl ⟨by omega, by omega⟩ ⟨by omega, by omega⟩ (by omega) (by omega) ?_
          refine am_intE (y := (iZ ((k % u : Nat) : Int))) (congrArg iZ rfl) ?_
          refine am_iload (q := 56) C dX11_check_54 rfl rfl ?_
          refine am_iload_n (q := 57) C dX11_check_56 rfl rfl ?_
          refine am_idivZ (q := 58) C dX11_check_57 rfl ⟨by omega, by omega⟩ ⟨by omega, by omega⟩ (by omega) (by omega) ?_
          refine am_intE (y := (iZ ((k / u : Nat) : Int))) (congrArg iZ rfl) ?_
          refine am_callS (q := 61) (As := [.int (iZ 0), .int (iZ ((k % u : Nat) : Int)), .int (iZ ((k / u : Nat) : Int))]) (rest := [.ref 207, .long (sF σ i k)]) C mb_X11_place st_X11_place ml_X11_171 dX11_check_58 rfl (sp_X11_place _ _ _) rfl rfl ⟨by decide, by decide⟩ ⟨Nat.le_refl _, Nat.le_refl _⟩ (Nat.le_of_ble_eq_true rfl) (am_rie ?_)
          refine am_laloadZ (q := 62) ((0 * 61 + k / u) * 61 + k % u) C dX11_check_61 rfl kk_207 (show 207 < 215 by decide) (by omega) (by omega) (by decide) ?_
          refine am_longE (y := (lN (Wy σ.1 (pm σ.1) (k % u) (k / u)))) (hT1 0 (k % u) (k / u) (by omega) (hbk k (by omega)).1 (hbk k (by omega)).2) ?_
          refine am_lcmp (q := 63) C dX11_check_62 rfl ?_
          refine am_if_eq (q := 66) (tgt := 69) C dX11_check_63 (by decide) rfl (fun e2 => ?_) (fun e2 => ?_)
          · have e2 := (lg_cmp_eq (sF σ i k) (lN (Wy σ.1 (pm σ.1) (k % u) (k / u)))).mp e2
            refine am_iincZ (q := 72) (L' := [some (.ref 191), some (.int (iZ (i : Int))), some (.int (iZ (u : Int))), some (.int (iZ (lackA σ (i : Int) (u : Int)))), some (.int (iZ ((k + 1 : Nat) : Int)))]) C dX11_check_69 rfl rfl (by omega) (by decide) rfl rfl ?_
            refine am_goto (q := 22) C dX11_check_72 (by decide) ?_
            refine ih (k + 1) (by omega) ?_ (by omega)
            rw [← hq, show sN σ i - k = (sN σ i - (k + 1)) + 1 by omega]
            have h9 : ¬ chkB σ i u k = true := fun z => absurd (by assumption) (of_decide_eq_true z)
            exact (if_neg h9).symm
          · have e2 : ¬ (_) := fun z => e2 ((lg_cmp_eq (sF σ i k) (lN (Wy σ.1 (pm σ.1) (k % u) (k / u)))).mpr z)
            refine am_iload (q := 68) C dX11_check_66 rfl rfl ?_
            refine am_iret C T dX11_check_68 rfl (Nat.le_refl _) (Nat.le_refl _) ⟨_, rfl, ?_⟩
            have e1 : checkA σ (i : Int) (u : Int) = (k : Int) := by
              unfold checkA
              simp only [Int.toNat_natCast]
              rw [if_pos (by omega), if_pos hrf, ← hq]
              rw [show sN σ i - k = (sN σ i - (k + 1)) + 1 by omega]
              exact if_pos (decide_eq_true (by assumption))
            rw [e1]
            exact ⟨rfl, _, _, rfl, hM1, hfS.M⟩
    exact l1 (sN σ i + 1) 0 (by omega) rfl (by omega)
  · refine am_iload_n (q := 12) C dX11_check_11 rfl rfl ?_
    refine am_iret C T dX11_check_12 rfl (Nat.le_refl _) (Nat.le_refl _) ⟨_, rfl, ?_⟩
    rw [(lay_no (by assumption)).2.2]
    exact ⟨rfl, _, _, rfl, hM, frM_refl⟩
theorem fiN_nar (b : Bool) : narrow .boolean (.int (iZ (fiN b : Int))) = .int (iZ (fiN b : Int)) := by cases b <;> rfl
set_option maxRecDepth 4000 in
theorem sp_X11_isFree {σ : SG} (hM : atM I J σ) {i : Nat} (hi : i < 4) {u a b : Nat} (hu : 1 ≤ u ∧ u ≤ 10) (hT : tabG J u (sN σ i / u) (geoF (Fr σ.1 (pm σ.1)) a b)) : am_S G mX11_isFree 3 0 0 [.ref 191, .int (iZ (i : Int)), .int (iZ (u : Int))] (215, kK, kR, I, J) (am_fi (iZ (fiN (isTab σ.1 (sF σ i) u a b (sN σ i)) : Int)) (215, kK, kR, I, J)) := by
  obtain ⟨a1, a2, a3, a4, a5, a6⟩ := hM.2.2.2.2.2.2.2 i hi
  have hd1 : sN σ i / u ≤ sN σ i := Nat.div_le_self _ _
  refine am_spec (plainFor_of_name (by decide +kernel)) (Nat.le_of_ble_eq_true rfl) (L := [some (.ref 191), some (.int (iZ (i : Int))), some (.int (iZ (u : Int))), none, none]) rfl (fun X C T => ?_)
  have lp : ∀ (fuel : Nat) (k : Nat), (k ≤ sN σ i) → (sN σ i - k) < fuel → am_A G mX11_isFree X (am_rm 3 0 0) 5 [some (.ref 191), some (.int (iZ (i : Int))), some (.int (iZ (u : Int))), some (.int (iZ (fiN (isTab σ.1 (sF σ i) u a b k) : Int))), some (.int (iZ (k : Int)))] [] (215, kK, kR, I, J) 0 0 := by
    intro fuel
    induction fuel with
    | zero => intro k hk hf; exact absurd hf (Nat.not_lt_zero _)
    | succ fuel ih =>
      intro k hk hf
      have hmk0 := Nat.mod_lt k (show u > 0 by omega)
      have hdk0 : k / u ≤ k := Nat.div_le_self _ _
      have hdk1 : (0 : Int) ≤ ((k / u : Nat) : Int) := Int.natCast_nonneg _
      have hmk1 : (0 : Int) ≤ ((k % u : Nat) : Int) := Int.natCast_nonneg _
      have hfl := fiN_le (isTab σ.1 (sF σ i) u a b k)
      have hdk2 : k ≤ sN σ i → k / u ≤ sN σ i / u := fun h => Nat.div_le_div_right h
      refine am_iload (q := 7) C dX11_isFree_5 rfl rfl ?_
      refine am_aload_n (q := 8) C dX11_isFree_7 rfl rfl ?_
      refine am_getR (q := 11) C fb_X11_80 dX11_isFree_8 rfl rfl kk_191 (show 191 < 215 by decide) kr_191_46 ?_
      refine am_iload_n (q := 12) C dX11_isFree_11 rfl rfl ?_
      refine am_ialoadZ (q := 13) i C dX11_isFree_12 rfl kk_213 (show 213 < 215 by decide) rfl (by omega) (by decide) ?_
      refine am_intE (y := (iZ (sN σ i : Int))) a2 ?_
      refine am_icmpZ_ge (q := 16) (tgt := 60) C dX11_isFree_13 (by decide) rfl ⟨by omega, by omega⟩ ⟨by omega, by omega⟩ (fun c1 => ?_) (fun c1 => ?_)
      · refine am_iload_n (q := 61) C dX11_isFree_60 rfl rfl ?_
        refine am_zret C T dX11_isFree_61 rfl (fiN_nar _) (Nat.le_refl _) (Nat.le_refl _) ⟨_, rfl, ?_⟩
        rw [show sN σ i = k by omega]
        exact ⟨rfl, rfl⟩
      · refine am_iload_n (q := 17) C dX11_isFree_16 rfl rfl ?_
        refine am_ifZ_eq (q := 20) (tgt := 52) C dX11_isFree_17 (by decide) rfl ⟨by omega, by omega⟩ (fun c2 => ?_) (fun c2 => ?_)
        · refine am_iconst (q := 53) (v := iZ 0) C dX11_isFree_52 rfl rfl ?_
          refine am_istore_n (q := 54) (L' := [some (.ref 191), some (.int (iZ (i : Int))), some (.int (iZ (u : Int))), some (.int (iZ 0)), some (.int (iZ (k : Int)))]) C dX11_isFree_53 rfl (by decide) rfl rfl ?_
          refine am_iincZ (q := 57) (L' := [some (.ref 191), some (.int (iZ (i : Int))), some (.int (iZ (u : Int))), some (.int (iZ 0)), some (.int (iZ ((k + 1 : Nat) : Int)))]) C dX11_isFree_54 rfl rfl (by omega) (by decide) rfl rfl ?_
          refine am_goto (q := 5) C dX11_isFree_57 (by decide) ?_
          have e9 : fiN (isTab σ.1 (sF σ i) u a b (k + 1)) = 0 := by
            show fiN (isTab σ.1 (sF σ i) u a b k && decide (sF σ i k = geoF (Fr σ.1 (pm σ.1)) a b (k % u) (k / u))) = _
            by_cases hz : isTab σ.1 (sF σ i) u a b k = true
            · have h1 := fiN_1.mpr hz
              rw [hz, decide_eq_false (by first | assumption | (exfalso; omega))]; rfl
            · rw [Bool.not_eq_true] at hz
              rw [hz]; rfl
          have h9 := ih (k + 1) (by omega) (by omega)
          rw [e9] at h9
          exact h9
        · refine am_aload_n (q := 21) C dX11_isFree_20 rfl rfl ?_
          refine am_getR (q := 24) C fb_X11_83 dX11_isFree_21 rfl rfl kk_191 (show 191 < 215 by decide) kr_191_47 ?_
          refine am_bipush (q := 26) (v := iZ 60) C dX11_isFree_24 rfl rfl ?_
          refine am_iload_n (q := 27) C dX11_isFree_26 rfl rfl ?_
          refine am_imulZ (q := 28) C dX11_isFree_27 rfl ?_
          refine am_iload (q := 30) C dX11_isFree_28 rfl rfl ?_
          refine am_iaddZ (q := 31) C dX11_isFree_30 rfl ?_
          refine am_laloadZ (q := 32) (60 * i + k) C dX11_isFree_31 rfl kk_214 (show 214 < 215 by decide) (by omega) (by omega) (by decide) ?_
          refine am_longE (y := (sF σ i k)) (a6 k (by omega)) ?_
          refine am_aload_n (q := 33) C dX11_isFree_32 rfl rfl ?_
          refine am_iload (q := 35) C dX11_isFree_33 rfl rfl ?_
          refine am_iload_n (q := 36) C dX11_isFree_35 rfl rfl ?_
          refine am_iremZ (q := 37) C dX11_isFree_36 rfl ⟨by omega, by omega⟩ ⟨by omega, by omega⟩ (by omega) (by omega) ?_
          refine am_intE (y := (iZ ((k % u : Nat) : Int))) (congrArg iZ rfl) ?_
          refine am_iload (q := 39) C dX11_isFree_37 rfl rfl ?_
          refine am_iload_n (q := 40) C dX11_isFree_39 rfl rfl ?_
          refine am_idivZ (q := 41) C dX11_isFree_40 rfl ⟨by omega, by omega⟩ ⟨by omega, by omega⟩ (by omega) (by omega) ?_
          refine am_intE (y := (iZ ((k / u : Nat) : Int))) (congrArg iZ rfl) ?_
          refine am_callV (q := 44) (As := [.int (iZ ((k % u : Nat) : Int)), .int (iZ ((k / u : Nat) : Int))]) (rest := [.long (sF σ i k)]) C mb_X11_freeAt im_X11_freeAt se_X11_freeAt ml_X11_195 cb_11 kk_191 (show 191 < 215 by decide) dX11_isFree_41 rfl (sp_X11_freeAt (cx := u) (cy := sN σ i / u) (by omega) (by omega) hT (x := ((k % u : Nat) : Int)) (y := ((k / u : Nat) : Int)) ⟨by omega, by omega⟩ ⟨by omega, by omega⟩ (by omega) (by omega)) rfl rfl ⟨by decide, by decide⟩ ⟨Nat.le_refl _, Nat.le_refl _⟩ (Nat.le_of_ble_eq_true rfl) (am_rle ?_)
          refine am_longE (show _ = geoF (Fr σ.1 (pm σ.1)) a b (k % u) (k / u) from if_pos (by omega)) ?_
          refine am_lcmp (q := 45) C dX11_isFree_44 rfl ?_
          refine am_if_ne (q := 48) (tgt := 52) C dX11_isFree_45 (by decide) rfl (fun c3 => ?_) (fun c3 => ?_)
          · have c3 : ¬ (_) := fun z => c3 ((lg_cmp_eq (sF σ i k) (geoF (Fr σ.1 (pm σ.1)) a b (k % u) (k / u))).mpr z)
            refine am_iconst (q := 53) (v := iZ 0) C dX11_isFree_52 rfl rfl ?_
            refine am_istore_n (q := 54) (L' := [some (.ref 191), some (.int (iZ (i : Int))), some (.int (iZ (u : Int))), some (.int (iZ 0)), some (.int (iZ (k : Int)))]) C dX11_isFree_53 rfl (by decide) rfl rfl ?_
            refine am_iincZ (q := 57) (L' := [some (.ref 191), some (.int (iZ (i : Int))), some (.int (iZ (u : Int))), some (.int (iZ 0)), some (.int (iZ ((k + 1 : Nat) : Int)))]) C dX11_isFree_54 rfl rfl (by omega) (by decide) rfl rfl ?_
            refine am_goto (q := 5) C dX11_isFree_57 (by decide) ?_
            have e9 : fiN (isTab σ.1 (sF σ i) u a b (k + 1)) = 0 := by
              show fiN (isTab σ.1 (sF σ i) u a b k && decide (sF σ i k = geoF (Fr σ.1 (pm σ.1)) a b (k % u) (k / u))) = _
              by_cases hz : isTab σ.1 (sF σ i) u a b k = true
              · have h1 := fiN_1.mpr hz
                rw [hz, decide_eq_false (by first | assumption | (exfalso; omega))]; rfl
              · rw [Bool.not_eq_true] at hz
                rw [hz]; rfl
            have h9 := ih (k + 1) (by omega) (by omega)
            rw [e9] at h9
            exact h9
          · have c3 := (lg_cmp_eq (sF σ i k) (geoF (Fr σ.1 (pm σ.1)) a b (k % u) (k / u))).mp c3
            refine am_iconst (q := 49) (v := iZ 1) C dX11_isFree_48 rfl rfl ?_
            refine am_goto (q := 53) C dX11_isFree_49 (by decide) ?_
            refine am_istore_n (q := 54) (L' := [some (.ref 191), some (.int (iZ (i : Int))), some (.int (iZ (u : Int))), some (.int (iZ 1)), some (.int (iZ (k : Int)))]) C dX11_isFree_53 rfl (by decide) rfl rfl ?_
            refine am_iincZ (q := 57) (L' := [some (.ref 191), some (.int (iZ (i : Int))), some (.int (iZ (u : Int))), some (.int (iZ 1)), some (.int (iZ ((k + 1 : Nat) : Int)))]) C dX11_isFree_54 rfl rfl (by omega) (by decide) rfl rfl ?_
            refine am_goto (q := 5) C dX11_isFree_57 (by decide) ?_
            have e9 : fiN (isTab σ.1 (sF σ i) u a b (k + 1)) = 1 := by
              show fiN (isTab σ.1 (sF σ i) u a b k && decide (sF σ i k = geoF (Fr σ.1 (pm σ.1)) a b (k % u) (k / u))) = _
              rw [fiN_1.mp (show fiN (isTab σ.1 (sF σ i) u a b k) = 1 by omega), decide_eq_true (by assumption)]; rfl
            have h9 := ih (k + 1) (by omega) (by omega)
            rw [e9] at h9
            exact h9
  refine am_iconst (q := 1) (v := iZ 1) C dX11_isFree_0 rfl rfl ?_
  refine am_istore_n (q := 2) (L' := [some (.ref 191), some (.int (iZ (i : Int))), some (.int (iZ (u : Int))), some (.int (iZ 1)), none]) C dX11_isFree_1 rfl (by decide) rfl rfl ?_
  refine am_iconst (q := 3) (v := iZ 0) C dX11_isFree_2 rfl rfl ?_
  refine am_istore (q := 5) (L' := [some (.ref 191), some (.int (iZ (i : Int))), some (.int (iZ (u : Int))), some (.int (iZ 1)), some (.int (iZ 0))]) C dX11_isFree_3 rfl (by decide) rfl rfl ?_
  exact lp (sN σ i + 1) 0 (Nat.zero_le _) (by omega)
theorem moF_none {f : Nat → Bool} : ∀ k, moN f k = 0 → moF f k = -3
  | 0, _ => rfl
  | k + 1, h => by
    rw [moN_1] at h
    rw [moF_1, if_neg, moF_none k (by omega)]
    intro z
    rw [if_pos z.1] at h
    omega
theorem moF_keep {f : Nat → Bool} {j : Nat} (h : moN f j ≠ 0) : ∀ d, moN f (j + d) ≠ 0 ∧ moF f (j + d) = moF f j
  | 0 => ⟨h, rfl⟩
  | d + 1 => by
    have ih := moF_keep h d
    refine ⟨?_, ?_⟩
    · show moN f (j + d + 1) ≠ 0
      rw [moN_1]; omega
    · show moF f (j + d + 1) = _
      rw [moF_1, if_neg (fun z => ih.1 z.2)]
      exact ih.2
set_option maxRecDepth 4000 in
theorem sp_X11_more {σ : SG} (hM : atM I J σ) {p w k0 : Int} (hp : rg p) (hw : rg w) (hk0 : rg k0) : am_S G mX11_more 6 0 0 [.ref 191, .int (iZ p), .int (iZ w), .int (iZ k0)] (215, kK, kR, I, J) (am_qi (fun v w' => v = iZ (moreA σ p w k0) ∧ ∃ (I' : Nat → Nat → Int32) (J' : Nat → Nat → Int64), w' = (215, kK, kR, I', J') ∧ atM I' J' (σ) ∧ frM I J I' J')) := by
  have hQ := hM.1
  have hK := hM.2.1
  have hm := hM.2.1.1
  have hL := hM.2.2.1
  refine am_spec (plainFor_of_name (by decide +kernel)) (Nat.le_of_ble_eq_true rfl) (L := [some (.ref 191), some (.int (iZ p)), some (.int (iZ w)), some (.int (iZ k0)), none, none, none, none, none]) rfl (fun X C T => ?_)
  refine am_iload_n (q := 1) C dX11_more_0 rfl rfl ?_
  refine am_iconst (q := 2) (v := iZ 0) C dX11_more_1 rfl rfl ?_
  refine am_iconst (q := 3) (v := iZ 1) C dX11_more_2 rfl rfl ?_
  refine am_callS (q := 6) (As := [.int (iZ k0), .int (iZ 0), .int (iZ 1)]) (rest := []) C mb_X11_in st_X11_in ml_X11_89 dX11_more_3 rfl (sp_X11_in (v := k0) (a := 0) (b := 1) hk0 ⟨by omega, by omega⟩ ⟨by omega, by omega⟩) rfl rfl ⟨by decide, by decide⟩ ⟨Nat.le_refl _, Nat.le_refl _⟩ (Nat.le_of_ble_eq_true rfl) (am_rie ?_)
  refine am_ifB_eq (q := 9) (tgt := 18) C dX11_more_6 (by decide) rfl (fun c1 => ?_) (fun c1 => ?_)
  · refine am_iconst (q := 19) (v := iZ (-1)) C dX11_more_18 rfl rfl ?_
    refine am_istore (q := 21) (L' := [some (.ref 191), some (.int (iZ p)), some (.int (iZ w)), some (.int (iZ k0)), some (.int (iZ (-1))), none, none, none, none]) C dX11_more_19 rfl (by decide) rfl rfl ?_
    refine am_iload (q := 23) C dX11_more_21 rfl rfl ?_
    refine am_ifZ_eq (q := 26) (tgt := 29) C dX11_more_23 (by decide) rfl ⟨by omega, by omega⟩ (fun c2 => ?_) (fun c2 => ?_)
    · exact absurd c2 (by decide)
    · refine am_iload (q := 28) C dX11_more_26 rfl rfl ?_
      refine am_iret C T dX11_more_28 rfl (Nat.le_refl _) (Nat.le_refl _) ⟨_, rfl, ?_⟩
      have e1 : moreA σ p w k0 = -1 := if_neg (by omega)
      rw [e1]
      exact ⟨rfl, _, _, rfl, hM, frM_refl⟩
  · refine am_aload_n (q := 10) C dX11_more_9 rfl rfl ?_
    refine am_iload_n (q := 11) C dX11_more_10 rfl rfl ?_
    refine am_iload_n (q := 12) C dX11_more_11 rfl rfl ?_
    have hlr := lack_rg σ p w
    refine am_callV (q := 15) (As := [.int (iZ p), .int (iZ w)]) (rest := []) C mb_X11_lacks im_X11_lacks se_X11_lacks ml_X11_307 cb_11 kk_191 (show 191 < 215 by decide) dX11_more_12 rfl (sp_X11_lacks hM hp hw) rfl rfl ⟨by decide, by decide⟩ ⟨Nat.le_refl _, Nat.le_refl _⟩ (Nat.le_of_ble_eq_true rfl) (am_rie ?_)
    refine am_goto (q := 19) C dX11_more_15 (by decide) ?_
    refine am_istore (q := 21) (L' := [some (.ref 191), some (.int (iZ p)), some (.int (iZ w)), some (.int (iZ k0)), some (.int (iZ (lackA σ p w))), none, none, none, none]) C dX11_more_19 rfl (by decide) rfl rfl ?_
    refine am_iload (q := 23) C dX11_more_21 rfl rfl ?_
    refine am_ifZ_eq (q := 26) (tgt := 29) C dX11_more_23 (by decide) rfl ⟨by omega, by omega⟩ (fun c3 => ?_) (fun c3 => ?_)
    · obtain ⟨hpr, hrf⟩ := lack_0 (by assumption)
      obtain ⟨i, rfl⟩ : ∃ q : Nat, p = q := ⟨p.toNat, by omega⟩
      have hi : i < 4 := by omega
      rw [Int.toNat_natCast] at hrf
      obtain ⟨hw1, hw2, hs1, hs2⟩ := refT_0 hrf
      obtain ⟨u, rfl⟩ : ∃ u : Nat, w = u := ⟨w.toNat, by omega⟩
      have hu : 1 ≤ u ∧ u ≤ 10 := ⟨by omega, by omega⟩
      obtain ⟨a1, a2, a3, a4, a5, a6⟩ := hM.2.2.2.2.2.2.2 i hi
      have l1 : ∀ (fuel : Nat) (c : Nat) (f kz : Int) (I1 : Nat → Nat → Int32) (J1 : Nat → Nat → Int64), (0 ≤ kz ∧ kz ≤ 24) → (frS I J I1 J1) → (∀ j : Nat, kz = (j : Int) → c + moN (morB σ i u) (j + 1) = moN (morB σ i u) 25 ∧ (moN (morB σ i u) (j + 1) = 0 → f = moF (morB σ i u) 25) ∧ (-1000 ≤ f ∧ f ≤ 1000)) → (kz.toNat) < fuel → am_A G mX11_more X (am_rm 6 0 0) 40 [some (.ref 191), some (.int (iZ (i : Int))), some (.int (iZ (u : Int))), some (.int (iZ k0)), some (.int (iZ (lackA σ (i : Int) (u : Int)))), some (.int (iZ (c : Int))), some (.int (iZ f)), some (.int (iZ kz)), none] [] (215, kK, kR, I1, J1) 0 0 := by
        intro fuel
        induction fuel with
        | zero => intro c f kz I1 J1 hkz hfr hinv hf; exact absurd hf (Nat.not_lt_zero _)
        | succ fuel ih =>
          intro c f kz I1 J1 hkz hfr hinv hf
          have hM1 := hM.scr hfr
          have b213 : I1 213 i = I 213 i := by rw [(hfr.2 213 (by decide) (by decide)).1]
          have hd1 : sN σ i / u ≤ sN σ i := Nat.div_le_self _ _
          have hd2 : (0 : Int) ≤ ((sN σ i / u : Nat) : Int) := Int.natCast_nonneg _
          refine am_iload (q := 42) C dX11_more_40 rfl rfl ?_
          refine am_ifZ_le (q := 45) (tgt := 123) C dX11_more_42 (by decide) rfl ⟨by omega, by omega⟩ (fun e1 => ?_) (fun e1 => ?_)
          · refine am_iload_n (q := 124) C dX11_more_123 rfl rfl ?_
            refine am_ifZ_ne (q := 127) (tgt := 132) C dX11_more_124 (by decide) rfl hk0 (fun e2 => ?_) (fun e2 => ?_)
            · refine am_iload (q := 134) C dX11_more_132 rfl rfl ?_
              refine am_iret C T dX11_more_134 rfl (Nat.le_refl _) (Nat.le_refl _) ⟨_, rfl, ?_⟩
              have hst := hinv 0 (by omega)
              have e0 : moN (morB σ i u) 1 = 0 := rfl
              rw [show 0 + 1 = 1 from rfl, e0] at hst
              have e1 : moreA σ (i : Int) (u : Int) k0 = f := by
                unfold moreA
                simp only [Int.toNat_natCast]
                rw [if_pos (by omega), if_pos (by omega), if_pos hrf]
                rw [if_neg (by omega)]; exact (hst.2.1 rfl).symm
              rw [e1]
              exact ⟨rfl, _, _, rfl, hM.scr hfr, hfr.M⟩
            · refine am_iload (q := 129) C dX11_more_127 rfl rfl ?_
              refine am_goto (q := 134) C dX11_more_129 (by decide) ?_
              refine am_iret C T dX11_more_134 rfl (Nat.le_refl _) (Nat.le_refl _) ⟨_, rfl, ?_⟩
              have hst := hinv 0 (by omega)
              have e0 : moN (morB σ i u) 1 = 0 := rfl
              rw [show 0 + 1 = 1 from rfl, e0] at hst
              have e1 : moreA σ (i : Int) (u : Int) k0 = (c : Int) := by
                unfold moreA
                simp only [Int.toNat_natCast]
                rw [if_pos (by omega), if_pos (by omega), if_pos hrf]
                rw [if_pos (by omega), ← hst.1]; omega
              rw [e1]
              exact ⟨rfl, _, _, rfl, hM.scr hfr, hfr.M⟩
          · obtain ⟨k, rfl⟩ : ∃ q : Nat, kz = q := ⟨kz.toNat, by omega⟩
            have hk5 : k / 5 ≤ 4 ∧ k % 5 ≤ 4 ∧ 1 ≤ k / 5 + k % 5 := by omega
            have hmb : morB σ i u k = isTab σ.1 (sF σ i) u (k / 5) (k % 5) (sN σ i) := rfl
            have hst := hinv k rfl
            refine am_aload_n (q := 46) C dX11_more_45 rfl rfl ?_
            refine am_iload_n (q := 47) C dX11_more_46 rfl rfl ?_
            refine am_aload_n (q := 48) C dX11_more_47 rfl rfl ?_
            refine am_getR (q := 51) C fb_X11_80 dX11_more_48 rfl rfl kk_191 (show 191 < 215 by decide) kr_191_46 ?_
            refine am_iload_n (q := 52) C dX11_more_51 rfl rfl ?_
            refine am_ialoadZ (q := 53) i C dX11_more_52 rfl kk_213 (show 213 < 215 by decide) rfl (by omega) (by decide) ?_
            refine am_intE (y := (iZ (sN σ i : Int))) (b213.trans a2) ?_
            refine am_iload_n (q := 54) C dX11_more_53 rfl rfl ?_
            refine am_idivZ (q := 55) C dX11_more_54 rfl ⟨by omega, by omega⟩ ⟨by omega, by omega⟩ (by omega) (by omega) ?_
            refine am_intE (y := (iZ ((sN σ i / u : Nat) : Int))) (congrArg iZ rfl) ?_
            refine am_callV (q := 58) (As := [.int (iZ (u : Int)), .int (iZ ((sN σ i / u : Nat) : Int))]) (rest := []) C mb_X11_countFree im_X11_countFree se_X11_countFree ml_X11_192 cb_11 kk_191 (show 191 < 215 by decide) dX11_more_55 rfl (sp_X11_countFree hM1.1 hM1.2.1 (cx := u) (cy := sN σ i / u) (by omega) (by omega)) rfl rfl ⟨by decide, by decide⟩ ⟨Nat.le_refl _, Nat.le_refl _⟩ (Nat.le_of_ble_eq_true rfl) (am_rv (fun w' hw' => ?_))
            obtain ⟨J2, rfl, hJ2, hT2⟩ := hw'
            have hf2 := frS_tr hfr (cf_frS (I := I1) (J := J1) (cx := u) (cy := sN σ i / u) hJ2)
            refine am_aload_n (q := 59) C dX11_more_58 rfl rfl ?_
            refine am_iload (q := 61) C dX11_more_59 rfl rfl ?_
            refine am_iconst (q := 62) (v := iZ 5) C dX11_more_61 rfl rfl ?_
            refine am_idivZ (q := 63) C dX11_more_62 rfl ⟨by omega, by omega⟩ ⟨by omega, by omega⟩ (by omega) (by omega) ?_
            refine am_intE (y := (iZ ((k / 5 : Nat) : Int))) (congrArg iZ rfl) ?_
            refine am_iload (q := 65) C dX11_more_63 rfl rfl ?_
            refine am_iconst (q := 66) (v := iZ 5) C dX11_more_65 rfl rfl ?_
            refine am_iremZ (q := 67) C dX11_more_66 rfl ⟨by omega, by omega⟩ ⟨by omega, by omega⟩ (by omega) (by omega) ?_
            refine am_intE (y := (iZ ((k % 5 : Nat) : Int))) (congrArg iZ rfl) ?_
            refine am_callV (q := 70) (As := [.int (iZ ((k / 5 : Nat) : Int)), .int (iZ ((k % 5 : Nat) : Int))]) (rest := []) C mb_X11_addsPart im_X11_addsPart se_X11_addsPart ml_X11_189 cb_11 kk_191 (show 191 < 215 by decide) dX11_more_67 rfl (sp_X11_addsPart (by omega) (by omega) (by simp [am_up]) (by simp [am_up]) hT2 (a := k / 5) (b := k % 5) (by omega) (by omega) (by omega)) rfl rfl ⟨by decide, by decide⟩ ⟨Nat.le_refl _, Nat.le_refl _⟩ (Nat.le_of_ble_eq_true rfl) (am_rv (fun w' hw' => ?_))
            obtain ⟨J3, rfl, hJ3, hT3⟩ := hw'
            have hf3 := frS_tr hf2 (frS_208 hJ3)
            refine am_aload_n (q := 71) C dX11_more_70 rfl rfl ?_
            refine am_iload_n (q := 72) C dX11_more_71 rfl rfl ?_
            refine am_iload_n (q := 73) C dX11_more_72 rfl rfl ?_
            have hfl := fiN_le (isTab σ.1 (sF σ i) u (k / 5) (k % 5) (sN σ i))
            refine am_callV (q := 76) (As := [.int (iZ (i : Int)), .int (iZ (u : Int))]) (rest := []) C mb_X11_isFree im_X11_isFree se_X11_isFree ml_X11_317 cb_11 kk_191 (show 191 < 215 by decide) dX11_more_73 rfl (sp_X11_isFree (hM.scr hf3) hi (a := k / 5) (b := k % 5) hu hT3) rfl rfl ⟨by decide, by decide⟩ ⟨Nat.le_refl _, Nat.le_refl _⟩ (Nat.le_of_ble_eq_true rfl) (am_rie ?_)
            refine am_istore (q := 78) (L' := [some (.ref 191), some (.int (iZ (i : Int))), some (.int (iZ (u : Int))), some (.int (iZ k0)), some (.int (iZ (lackA σ (i : Int) (u : Int)))), some (.int (iZ (c : Int))), some (.int (iZ f)), some (.int (iZ (k : Int))), some (.int (iZ (fiN (isTab σ.1 (sF σ i) u (k / 5) (k % 5) (sN σ i)) : Int)))]) C dX11_more_76 rfl (by decide) rfl rfl ?_
            refine am_iload (q := 80) C dX11_more_78 rfl rfl ?_
            refine am_iload (q := 82) C dX11_more_80 rfl rfl ?_
            refine am_ifZ_eq (q := 85) (tgt := 89) C dX11_more_82 (by decide) rfl ⟨by omega, by omega⟩ (fun e3 => ?_) (fun e3 => ?_)
            · refine am_iconst (q := 90) (v := iZ 0) C dX11_more_89 rfl rfl ?_
              refine am_iaddZ (q := 91) C dX11_more_90 rfl ?_
              refine am_intE (y := (iZ (c : Int))) (congrArg iZ (by omega)) ?_
              refine am_istore (q := 93) (L' := [some (.ref 191), some (.int (iZ (i : Int))), some (.int (iZ (u : Int))), some (.int (iZ k0)), some (.int (iZ (lackA σ (i : Int) (u : Int)))), some (.int (iZ (c : Int))), some (.int (iZ f)), some (.int (iZ (k : Int))), some (.int (iZ (fiN (isTab σ.1 (sF σ i) u (k / 5) (k % 5) (sN σ i)) : Int)))]) C dX11_more_91 rfl (by decide) rfl rfl ?_
              refine am_iload (q := 95) C dX11_more_93 rfl rfl ?_
              refine am_ifZ_eq (q := 98) (tgt := 113) C dX11_more_95 (by decide) rfl ⟨by omega, by omega⟩ (fun e4 => ?_) (fun e4 => ?_)
              · refine am_iload (q := 115) C dX11_more_113 rfl rfl ?_
                refine am_istore (q := 117) (L' := [some (.ref 191), some (.int (iZ (i : Int))), some (.int (iZ (u : Int))), some (.int (iZ k0)), some (.int (iZ (lackA σ (i : Int) (u : Int)))), some (.int (iZ (c : Int))), some (.int (iZ f)), some (.int (iZ (k : Int))), some (.int (iZ (fiN (isTab σ.1 (sF σ i) u (k / 5) (k % 5) (sN σ i)) : Int)))]) C dX11_more_115 rfl (by decide) rfl rfl ?_
                refine am_iincZ (q := 120) (L' := [some (.ref 191), some (.int (iZ (i : Int))), some (.int (iZ (u : Int))), some (.int (iZ k0)), some (.int (iZ (lackA σ (i : Int) (u : Int)))), some (.int (iZ (c : Int))), some (.int (iZ f)), some (.int (iZ ((k : Int) - 1))), some (.int (iZ (fiN (isTab σ.1 (sF σ i) u (k / 5) (k % 5) (sN σ i)) : Int)))]) C dX11_more_117 rfl rfl (by omega) (by decide) rfl rfl ?_
                refine am_goto (q := 40) C dX11_more_120 (by decide) ?_
                refine am_wkA (L1 := [some (.ref 191), some (.int (iZ (i : Int))), some (.int (iZ (u : Int))), some (.int (iZ k0)), some (.int (iZ (lackA σ (i : Int) (u : Int)))), some (.int (iZ (c : Int))), some (.int (iZ f)), some (.int (iZ ((k : Int) - 1))), none]) ⟨rfl, ⟨rfl, ⟨rfl, ⟨rfl, ⟨rfl, ⟨rfl, ⟨rfl, ⟨rfl, trivial⟩⟩⟩⟩⟩⟩⟩⟩ ?_
                have hbt : morB σ i u k = false := by
                  rw [hmb, ← Bool.not_eq_true]
                  intro z
                  have := fiN_1.mpr z
                  omega
                refine ih c (f) ((k : Int) - 1) _ _ (by omega) hf3 (fun j hj => ?_) (by omega)
                obtain ⟨jj, rfl⟩ : ∃ jj, k = jj + 1 := ⟨k - 1, by omega⟩
                have ej : j = jj := by omega
                subst ej
                have en : moN (morB σ i u) (j + 1 + 1) = moN (morB σ i u) (j + 1) + 0 := by rw [moN_1 _ (j + 1), if_neg (fun z => by rw [hbt] at z; exact absurd z.2 (by decide))]
                rw [en] at hst
                refine ⟨by omega, fun h0 => ?_, ?_⟩
                · exact hst.2.1 (by omega)
                · exact hst.2.2
              · refine am_bipush (q := 100) (v := iZ 10) C dX11_more_98 rfl rfl ?_
                refine am_iload (q := 102) C dX11_more_100 rfl rfl ?_
                refine am_iconst (q := 103) (v := iZ 5) C dX11_more_102 rfl rfl ?_
                refine am_idivZ (q := 104) C dX11_more_103 rfl ⟨by omega, by omega⟩ ⟨by omega, by omega⟩ (by omega) (by omega) ?_
                refine am_intE (y := (iZ ((k / 5 : Nat) : Int))) (congrArg iZ rfl) ?_
                refine am_imulZ (q := 105) C dX11_more_104 rfl ?_
                refine am_iload (q := 107) C dX11_more_105 rfl rfl ?_
                refine am_iconst (q := 108) (v := iZ 5) C dX11_more_107 rfl rfl ?_
                refine am_iremZ (q := 109) C dX11_more_108 rfl ⟨by omega, by omega⟩ ⟨by omega, by omega⟩ (by omega) (by omega) ?_
                refine am_intE (y := (iZ ((k % 5 : Nat) : Int))) (congrArg iZ rfl) ?_
                refine am_iaddZ (q := 110) C dX11_more_109 rfl ?_
                refine am_goto (q := 115) C dX11_more_110 (by decide) ?_
                refine am_istore (q := 117) (L' := [some (.ref 191), some (.int (iZ (i : Int))), some (.int (iZ (u : Int))), some (.int (iZ k0)), some (.int (iZ (lackA σ (i : Int) (u : Int)))), some (.int (iZ (c : Int))), some (.int (iZ (10 * ((k / 5 : Nat) : Int) + ((k % 5 : Nat) : Int)))), some (.int (iZ (k : Int))), some (.int (iZ (fiN (isTab σ.1 (sF σ i) u (k / 5) (k % 5) (sN σ i)) : Int)))]) C dX11_more_115 rfl (by decide) rfl rfl ?_
                refine am_iincZ (q := 120) (L' := [some (.ref 191), some (.int (iZ (i : Int))), some (.int (iZ (u : Int))), some (.int (iZ k0)), some (.int (iZ (lackA σ (i : Int) (u : Int)))), some (.int (iZ (c : Int))), some (.int (iZ (10 * ((k / 5 : Nat) : Int) + ((k % 5 : Nat) : Int)))), some (.int (iZ ((k : Int) - 1))), some (.int (iZ (fiN (isTab σ.1 (sF σ i) u (k / 5) (k % 5) (sN σ i)) : Int)))]) C dX11_more_117 rfl rfl (by omega) (by decide) rfl rfl ?_
                refine am_goto (q := 40) C dX11_more_120 (by decide) ?_
                exfalso; omega
            · refine am_iconst (q := 86) (v := iZ 1) C dX11_more_85 rfl rfl ?_
              refine am_goto (q := 90) C dX11_more_86 (by decide) ?_
              refine am_iaddZ (q := 91) C dX11_more_90 rfl ?_
              refine am_intE (y := (iZ ((c + 1 : Nat) : Int))) (congrArg iZ (by omega)) ?_
              refine am_istore (q := 93) (L' := [some (.ref 191), some (.int (iZ (i : Int))), some (.int (iZ (u : Int))), some (.int (iZ k0)), some (.int (iZ (lackA σ (i : Int) (u : Int)))), some (.int (iZ ((c + 1 : Nat) : Int))), some (.int (iZ f)), some (.int (iZ (k : Int))), some (.int (iZ (fiN (isTab σ.1 (sF σ i) u (k / 5) (k % 5) (sN σ i)) : Int)))]) C dX11_more_91 rfl (by decide) rfl rfl ?_
              refine am_iload (q := 95) C dX11_more_93 rfl rfl ?_
              refine am_ifZ_eq (q := 98) (tgt := 113) C dX11_more_95 (by decide) rfl ⟨by omega, by omega⟩ (fun e5 => ?_) (fun e5 => ?_)
              · refine am_iload (q := 115) C dX11_more_113 rfl rfl ?_
                refine am_istore (q := 117) (L' := [some (.ref 191), some (.int (iZ (i : Int))), some (.int (iZ (u : Int))), some (.int (iZ k0)), some (.int (iZ (lackA σ (i : Int) (u : Int)))), some (.int (iZ ((c + 1 : Nat) : Int))), some (.int (iZ f)), some (.int (iZ (k : Int))), some (.int (iZ (fiN (isTab σ.1 (sF σ i) u (k / 5) (k % 5) (sN σ i)) : Int)))]) C dX11_more_115 rfl (by decide) rfl rfl ?_
                refine am_iincZ (q := 120) (L' := [some (.ref 191), some (.int (iZ (i : Int))), some (.int (iZ (u : Int))), some (.int (iZ k0)), some (.int (iZ (lackA σ (i : Int) (u : Int)))), some (.int (iZ ((c + 1 : Nat) : Int))), some (.int (iZ f)), some (.int (iZ ((k : Int) - 1))), some (.int (iZ (fiN (isTab σ.1 (sF σ i) u (k / 5) (k % 5) (sN σ i)) : Int)))]) C dX11_more_117 rfl rfl (by omega) (by decide) rfl rfl ?_
                refine am_goto (q := 40) C dX11_more_120 (by decide) ?_
                exfalso; omega
              · refine am_bipush (q := 100) (v := iZ 10) C dX11_more_98 rfl rfl ?_
                refine am_iload (q := 102) C dX11_more_100 rfl rfl ?_
                refine am_iconst (q := 103) (v := iZ 5) C dX11_more_102 rfl rfl ?_
                refine am_idivZ (q := 104) C dX11_more_103 rfl ⟨by omega, by omega⟩ ⟨by omega, by omega⟩ (by omega) (by omega) ?_
                refine am_intE (y := (iZ ((k / 5 : Nat) : Int))) (congrArg iZ rfl) ?_
                refine am_imulZ (q := 105) C dX11_more_104 rfl ?_
                refine am_iload (q := 107) C dX11_more_105 rfl rfl ?_
                refine am_iconst (q := 108) (v := iZ 5) C dX11_more_107 rfl rfl ?_
                refine am_iremZ (q := 109) C dX11_more_108 rfl ⟨by omega, by omega⟩ ⟨by omega, by omega⟩ (by omega) (by omega) ?_
                refine am_intE (y := (iZ ((k % 5 : Nat) : Int))) (congrArg iZ rfl) ?_
                refine am_iaddZ (q := 110) C dX11_more_109 rfl ?_
                refine am_goto (q := 115) C dX11_more_110 (by decide) ?_
                refine am_istore (q := 117) (L' := [some (.ref 191), some (.int (iZ (i : Int))), some (.int (iZ (u : Int))), some (.int (iZ k0)), some (.int (iZ (lackA σ (i : Int) (u : Int)))), some (.int (iZ ((c + 1 : Nat) : Int))), some (.int (iZ (10 * ((k / 5 : Nat) : Int) + ((k % 5 : Nat) : Int)))), some (.int (iZ (k : Int))), some (.int (iZ (fiN (isTab σ.1 (sF σ i) u (k / 5) (k % 5) (sN σ i)) : Int)))]) C dX11_more_115 rfl (by decide) rfl rfl ?_
                refine am_iincZ (q := 120) (L' := [some (.ref 191), some (.int (iZ (i : Int))), some (.int (iZ (u : Int))), some (.int (iZ k0)), some (.int (iZ (lackA σ (i : Int) (u : Int)))), some (.int (iZ ((c + 1 : Nat) : Int))), some (.int (iZ (10 * ((k / 5 : Nat) : Int) + ((k % 5 : Nat) : Int)))), some (.int (iZ ((k : Int) - 1))), some (.int (iZ (fiN (isTab σ.1 (sF σ i) u (k / 5) (k % 5) (sN σ i)) : Int)))]) C dX11_more_117 rfl rfl (by omega) (by decide) rfl rfl ?_
                refine am_goto (q := 40) C dX11_more_120 (by decide) ?_
                refine am_wkA (L1 := [some (.ref 191), some (.int (iZ (i : Int))), some (.int (iZ (u : Int))), some (.int (iZ k0)), some (.int (iZ (lackA σ (i : Int) (u : Int)))), some (.int (iZ ((c + 1 : Nat) : Int))), some (.int (iZ (10 * ((k / 5 : Nat) : Int) + ((k % 5 : Nat) : Int)))), some (.int (iZ ((k : Int) - 1))), none]) ⟨rfl, ⟨rfl, ⟨rfl, ⟨rfl, ⟨rfl, ⟨rfl, ⟨rfl, ⟨rfl, trivial⟩⟩⟩⟩⟩⟩⟩⟩ ?_
                have hbt : morB σ i u k = true := by
                  rw [hmb]
                  exact fiN_1.mp (by omega)
                refine ih (c + 1) (10 * ((k / 5 : Nat) : Int) + ((k % 5 : Nat) : Int)) ((k : Int) - 1) _ _ (by omega) hf3 (fun j hj => ?_) (by omega)
                obtain ⟨jj, rfl⟩ : ∃ jj, k = jj + 1 := ⟨k - 1, by omega⟩
                have ej : j = jj := by omega
                subst ej
                have en : moN (morB σ i u) (j + 1 + 1) = moN (morB σ i u) (j + 1) + 1 := by rw [moN_1 _ (j + 1), if_pos ⟨by omega, hbt⟩]
                rw [en] at hst
                refine ⟨by omega, fun h0 => ?_, ?_⟩
                · have ef : moF (morB σ i u) (j + 1 + 1) = 10 * (((j + 1) / 5 : Nat) : Int) + (((j + 1) % 5 : Nat) : Int) := by rw [moF_1 _ (j + 1), if_pos ⟨⟨by omega, hbt⟩, h0⟩]
                  have ek := (moF_keep (f := (morB σ i u)) (j := j + 1 + 1) (by omega) (25 - (j + 1 + 1))).2
                  rw [show j + 1 + 1 + (25 - (j + 1 + 1)) = 25 by omega, ef] at ek
                  exact ek.symm
                · omega
      refine am_iconst (q := 30) (v := iZ 0) C dX11_more_29 rfl rfl ?_
      refine am_istore (q := 32) (L' := [some (.ref 191), some (.int (iZ (i : Int))), some (.int (iZ (u : Int))), some (.int (iZ k0)), some (.int (iZ (lackA σ (i : Int) (u : Int)))), some (.int (iZ 0)), none, none, none]) C dX11_more_30 rfl (by decide) rfl rfl ?_
      refine am_bipush (q := 34) (v := iZ (-3)) C dX11_more_32 rfl rfl ?_
      refine am_istore (q := 36) (L' := [some (.ref 191), some (.int (iZ (i : Int))), some (.int (iZ (u : Int))), some (.int (iZ k0)), some (.int (iZ (lackA σ (i : Int) (u : Int)))), some (.int (iZ 0)), some (.int (iZ (-3))), none, none]) C dX11_more_34 rfl (by decide) rfl rfl ?_
      refine am_bipush (q := 38) (v := iZ 24) C dX11_more_36 rfl rfl ?_
      refine am_istore (q := 40) (L' := [some (.ref 191), some (.int (iZ (i : Int))), some (.int (iZ (u : Int))), some (.int (iZ k0)), some (.int (iZ (lackA σ (i : Int) (u : Int)))), some (.int (iZ 0)), some (.int (iZ (-3))), some (.int (iZ 24)), none]) C dX11_more_38 rfl (by decide) rfl rfl ?_
      refine l1 25 0 (-3) 24 I J (by omega) frS_refl (fun j hj => ?_) (by omega)
      have ej : j = 24 := by omega
      subst ej
      exact ⟨Nat.zero_add _, fun h => (moF_none 25 h).symm, by omega, by omega⟩
    · refine am_iload (q := 28) C dX11_more_26 rfl rfl ?_
      refine am_iret C T dX11_more_28 rfl (Nat.le_refl _) (Nat.le_refl _) ⟨_, rfl, ?_⟩
      rw [more_no (by omega) (by assumption)]
      exact ⟨rfl, _, _, rfl, hM, frM_refl⟩
