variable {G : am_G} {I : Nat → Nat → Int32} {J : Nat → Nat → Int64}
theorem sp_sheetAtI {i : Nat} (hi : i < 4) : am_S G mX10_sheetAt 1 0 0 [.ref 0, .int (iZ (i : Int))] (215, kK, kR, I, J) (am_fr (some (183 + 2 * i)) (215, kK, kR, I, J)) := by
  have h := sp_X10_sheetAt (G := G) (I := I) (J := J) (p := (i : Int)) ⟨by omega, by omega⟩
  rw [if_pos (by omega), Int.toNat_natCast] at h
  exact h
theorem sp_sheetAtO {p : Int} (hp : rg p) (h0 : ¬ (0 ≤ p ∧ p < 4)) : am_S G mX10_sheetAt 1 0 0 [.ref 0, .int (iZ p)] (215, kK, kR, I, J) (am_fr none (215, kK, kR, I, J)) := by
  have h := sp_X10_sheetAt (G := G) (I := I) (J := J) hp
  rw [if_neg h0] at h
  exact h
/-- the sheets of a state -/
abbrev sS (σ : SG) (i : Nat) : Int := σ.2.2.2.2.2.1 i
abbrev sN (σ : SG) (i : Nat) : Nat := σ.2.2.2.2.2.2.1 i
abbrev sF (σ : SG) (i : Nat) : Nat → Int64 := σ.2.2.2.2.2.2.2 i
theorem atC_sh {σ : SG} (h : atC I J σ) {i : Nat} (hi : i < 4) : atS i I J (sS σ i) (sN σ i) (sF σ i) := h.2.2.2.2.2.2.2.2.2.2 i hi
/-- one sheet becomes another row -/
def shS (σ : SG) (i : Nat) (s : Int) (n : Nat) (f : Nat → Int64) : SG := (σ.1, σ.2.1, σ.2.2.1, σ.2.2.2.1, σ.2.2.2.2.1, (up1 σ.2.2.2.2.2.1 i s, up1 σ.2.2.2.2.2.2.1 i n, up1 σ.2.2.2.2.2.2.2 i f))
theorem atC_shS {σ : SG} {I' : Nat → Nat → Int32} {J' : Nat → Nat → Int64} (h : atC I J σ) {i : Nat} (hi : i < 4) {s : Int} {n : Nat} {f : Nat → Int64} (hA : atS i I' J' s n f) (hI : ∀ x, x ≠ 183 + 2 * i → I' x = I x) (hJ : ∀ x, x ≠ 184 + 2 * i → J' x = J x) : atC I' J' (shS σ i s n f) := by
  refine atC_0 (g := (shS σ i s n f).2.2) h (fun x h1 h2 h3 h4 h5 => ⟨hI x (by omega), hJ x (by omega)⟩) ?_
  obtain ⟨h1, h2, h3, h4, h5, ⟨r, h6⟩, h7⟩ := h.2.2.2.2
  refine ⟨by rw [hI 0 (by omega)]; exact h1, by rw [hI 0 (by omega)]; exact h2, by rw [hI 0 (by omega)]; exact h3, fun e => ⟨(h4 e).1.on (fun a h8 h9 => hI a (by omega)) (hJ 10 (by omega)), (h4 e).2⟩, h5.on (by rw [hI 163 (by omega)]) (hI 164 (by omega)), ⟨r, h6.on (hI 165 (by omega)) (hI 168 (by omega)) (hJ 166 (by omega)) (hJ 167 (by omega))⟩, fun j hj => ?_⟩
  show atS j I' J' (up1 σ.2.2.2.2.2.1 i s j) (up1 σ.2.2.2.2.2.2.1 i n j) (up1 σ.2.2.2.2.2.2.2 i f j)
  by_cases e : j = i
  · subst e; rw [up1_eq, up1_eq, up1_eq]; exact hA
  · rw [up1_ne _ _ e, up1_ne _ _ e, up1_ne _ _ e]
    exact (h7 j hj).on (hI _ (by omega)) (hJ _ (by omega))
theorem frC_sh {I' : Nat → Nat → Int32} {J' : Nat → Nat → Int64} {i : Nat} (hi : i < 4) (hI : ∀ x, x ≠ 183 + 2 * i → I' x = I x) (hJ : ∀ x, x ≠ 184 + 2 * i → J' x = J x) : frC I J I' J' := fun x hx => ⟨hI x (by omega), hJ x (by omega)⟩
def sheetA (p s n : Int) : Int := if (0 ≤ p ∧ p < 4) ∧ -1 ≤ s ∧ s ≤ 2 then (if s = -1 then 1 else if 60 < n then -1 else if n < 0 then -14 else 1) else -1
def sheetT (σ : SG) (p s n : Int) : SG := if (0 ≤ p ∧ p < 4) ∧ -1 ≤ s ∧ s ≤ 2 then (if s = -1 then shS σ p.toNat (-1) 0 (fun _ => 0) else if 60 < n then σ else if n < 0 then σ else shS σ p.toNat s n.toNat (fun _ => 0)) else σ
set_option maxRecDepth 4000 in
theorem sp_X10_sheet {σ : SG} (hC : atC I J σ) {p s n : Int} (hp : rg p) (hs : rg s) (hn : rg n) : am_S G mX10_sheet 3 0 0 [.ref 0, .int (iZ p), .int (iZ s), .int (iZ n)] (215, kK, kR, I, J) (am_qi (fun v w' => v = iZ (sheetA p s n) ∧ ∃ (I' : Nat → Nat → Int32) (J' : Nat → Nat → Int64), w' = (215, kK, kR, I', J') ∧ atC I' J' (sheetT σ p s n) ∧ frC I J I' J')) := by
  refine am_spec (plainFor_of_name (by decide +kernel)) (Nat.le_of_ble_eq_true rfl) (L := [some (.ref 0), some (.int (iZ p)), some (.int (iZ s)), some (.int (iZ n)), none]) rfl (fun X C T => ?_)
  by_cases h0 : 0 ≤ p ∧ p < 4
  · obtain ⟨i, rfl⟩ : ∃ q : Nat, p = q := ⟨p.toNat, by omega⟩
    have hi : i < 4 := by omega
    have hA := atC_sh hC hi
    obtain ⟨a1, a2, a3, a4, a5, a6⟩ := hA
    refine am_aload_n (q := 1) C dX10_sheet_0 rfl rfl ?_
    refine am_iload_n (q := 2) C dX10_sheet_1 rfl rfl ?_
    refine am_callV (q := 5) (As := [.int (iZ (i : Int))]) (rest := []) C mb_X10_sheetAt im_X10_sheetAt se_X10_sheetAt ml_X10_257 cb_10 kk_0 (show 0 < 215 by decide) dX10_sheet_2 rfl (sp_sheetAtI hi) rfl rfl ⟨by decide, by decide⟩ ⟨Nat.le_refl _, Nat.le_refl _⟩ (Nat.le_of_ble_eq_true rfl) (am_rre ?_)
    show am_A _ _ _ _ _ _ (.ref (183 + 2 * i) :: _) _ _ _
    refine am_astore (q := 7) (L' := [some (.ref 0), some (.int (iZ (i : Int))), some (.int (iZ s)), some (.int (iZ n)), some (.ref (183 + 2 * i))]) C dX10_sheet_5 rfl (by decide) rfl rfl ?_
    refine am_aload (q := 9) C dX10_sheet_7 rfl rfl ?_
    refine am_ifnull (q := 12) C dX10_sheet_9 rfl ?_
    refine am_iload_n (q := 13) C dX10_sheet_12 rfl rfl ?_
    refine am_iconst (q := 14) (v := iZ (-1)) C dX10_sheet_13 rfl rfl ?_
    refine am_icmpZ_lt (q := 17) (tgt := 22) C dX10_sheet_14 (by decide) rfl hs ⟨by omega, by omega⟩ (fun c1 => ?_) (fun c1 => ?_)
    · refine am_iconst (q := 23) (v := iZ (-1)) C dX10_sheet_22 rfl rfl ?_
      refine am_iret C T dX10_sheet_23 rfl (Nat.le_refl _) (Nat.le_refl _) ⟨_, rfl, ?_⟩
      have e1 : sheetA (i : Int) s n = (-1) := by
        unfold sheetA
        try simp only [Int.toNat_natCast]
        first | (rw [if_neg (by omega)]; done) | (rw [if_pos (by omega), if_pos (by omega)]; done) | (rw [if_pos (by omega), if_neg (by omega), if_pos (by omega)]; done) | (rw [if_pos (by omega), if_neg (by omega), if_neg (by omega), if_pos (by omega)]; done) | (rw [if_pos (by omega), if_neg (by omega), if_neg (by omega), if_neg (by omega)]; done)
      have e2 : sheetT σ (i : Int) s n = σ := by
        unfold sheetT
        try simp only [Int.toNat_natCast]
        first | (rw [if_neg (by omega)]; done) | (rw [if_pos (by omega), if_pos (by omega)]; done) | (rw [if_pos (by omega), if_neg (by omega), if_pos (by omega)]; done) | (rw [if_pos (by omega), if_neg (by omega), if_neg (by omega), if_pos (by omega)]; done) | (rw [if_pos (by omega), if_neg (by omega), if_neg (by omega), if_neg (by omega)]; done)
      rw [e1, e2]
      exact ⟨rfl, _, _, rfl, hC, frC_refl⟩
    · refine am_iload_n (q := 18) C dX10_sheet_17 rfl rfl ?_
      refine am_iconst (q := 19) (v := iZ 2) C dX10_sheet_18 rfl rfl ?_
      refine am_icmpZ_le (q := 22) (tgt := 24) C dX10_sheet_19 (by decide) rfl hs ⟨by omega, by omega⟩ (fun c2 => ?_) (fun c2 => ?_)
      · refine am_iload_n (q := 25) C dX10_sheet_24 rfl rfl ?_
        refine am_iconst (q := 26) (v := iZ (-1)) C dX10_sheet_25 rfl rfl ?_
        refine am_icmpZ_ne (q := 29) (tgt := 38) C dX10_sheet_26 (by decide) rfl hs ⟨by omega, by omega⟩ (fun c3 => ?_) (fun c3 => ?_)
        · refine am_iload_n (q := 39) C dX10_sheet_38 rfl rfl ?_
          refine am_bipush (q := 41) (v := iZ 60) C dX10_sheet_39 rfl rfl ?_
          refine am_icmpZ_le (q := 44) (tgt := 46) C dX10_sheet_41 (by decide) rfl hn ⟨by omega, by omega⟩ (fun c4 => ?_) (fun c4 => ?_)
          · refine am_iload_n (q := 47) C dX10_sheet_46 rfl rfl ?_
            refine am_ifZ_ge (q := 50) (tgt := 53) C dX10_sheet_47 (by decide) rfl hn (fun c5 => ?_) (fun c5 => ?_)
            · refine am_aload (q := 55) C dX10_sheet_53 rfl rfl ?_
              refine am_iload_n (q := 56) C dX10_sheet_55 rfl rfl ?_
              refine am_iload_n (q := 57) C dX10_sheet_56 rfl rfl ?_
              refine am_callN (q := 60) (As := [.int (iZ s), .int (iZ n)]) (rest := []) C mb_X7_become im_X7_become se_X7_become mn_X10_261 cb_7 (isS_c i hi).1 (show 183 + 2 * i < 215 by omega) dX10_sheet_57 rfl (sp_X7_become hi (s := s) (z := n) (by omega) ⟨by omega, by omega⟩) rfl rfl ⟨by decide, by decide⟩ ⟨Nat.le_refl _, Nat.le_refl _⟩ (Nat.le_of_ble_eq_true rfl) (am_rv (fun w' hw' => ?_))
              obtain ⟨I1, J1, rfl, hA1, hI1, hJ1⟩ := hw'
              refine am_iconst (q := 61) (v := iZ 1) C dX10_sheet_60 rfl rfl ?_
              refine am_iret C T dX10_sheet_61 rfl (Nat.le_refl _) (Nat.le_refl _) ⟨_, rfl, ?_⟩
              have e1 : sheetA (i : Int) s n = 1 := by
                unfold sheetA
                try simp only [Int.toNat_natCast]
                first | (rw [if_neg (by omega)]; done) | (rw [if_pos (by omega), if_pos (by omega)]; done) | (rw [if_pos (by omega), if_neg (by omega), if_pos (by omega)]; done) | (rw [if_pos (by omega), if_neg (by omega), if_neg (by omega), if_pos (by omega)]; done) | (rw [if_pos (by omega), if_neg (by omega), if_neg (by omega), if_neg (by omega)]; done)
              have e2 : sheetT σ (i : Int) s n = shS σ i s (n.toNat) (fun _ => 0) := by
                unfold sheetT
                try simp only [Int.toNat_natCast]
                first | (rw [if_neg (by omega)]; done) | (rw [if_pos (by omega), if_pos (by omega)]; done) | (rw [if_pos (by omega), if_neg (by omega), if_pos (by omega)]; done) | (rw [if_pos (by omega), if_neg (by omega), if_neg (by omega), if_pos (by omega)]; done) | (rw [if_pos (by omega), if_neg (by omega), if_neg (by omega), if_neg (by omega)]; done)
              rw [e1, e2]
              have e3 : (max 0 (min (n : Int) 60)).toNat = n.toNat := by omega
              rw [e3] at hA1
              exact ⟨rfl, _, _, rfl, atC_shS hC hi hA1 hI1 hJ1, frC_sh hi hI1 hJ1⟩
            · refine am_bipush (q := 52) (v := iZ (-14)) C dX10_sheet_50 rfl rfl ?_
              refine am_iret C T dX10_sheet_52 rfl (Nat.le_refl _) (Nat.le_refl _) ⟨_, rfl, ?_⟩
              have e1 : sheetA (i : Int) s n = (-14) := by
                unfold sheetA
                try simp only [Int.toNat_natCast]
                first | (rw [if_neg (by omega)]; done) | (rw [if_pos (by omega), if_pos (by omega)]; done) | (rw [if_pos (by omega), if_neg (by omega), if_pos (by omega)]; done) | (rw [if_pos (by omega), if_neg (by omega), if_neg (by omega), if_pos (by omega)]; done) | (rw [if_pos (by omega), if_neg (by omega), if_neg (by omega), if_neg (by omega)]; done)
              have e2 : sheetT σ (i : Int) s n = σ := by
                unfold sheetT
                try simp only [Int.toNat_natCast]
                first | (rw [if_neg (by omega)]; done) | (rw [if_pos (by omega), if_pos (by omega)]; done) | (rw [if_pos (by omega), if_neg (by omega), if_pos (by omega)]; done) | (rw [if_pos (by omega), if_neg (by omega), if_neg (by omega), if_pos (by omega)]; done) | (rw [if_pos (by omega), if_neg (by omega), if_neg (by omega), if_neg (by omega)]; done)
              rw [e1, e2]
              exact ⟨rfl, _, _, rfl, hC, frC_refl⟩
          · refine am_iconst (q := 45) (v := iZ (-1)) C dX10_sheet_44 rfl rfl ?_
            refine am_iret C T dX10_sheet_45 rfl (Nat.le_refl _) (Nat.le_refl _) ⟨_, rfl, ?_⟩
            have e1 : sheetA (i : Int) s n = (-1) := by
              unfold sheetA
              try simp only [Int.toNat_natCast]
              first | (rw [if_neg (by omega)]; done) | (rw [if_pos (by omega), if_pos (by omega)]; done) | (rw [if_pos (by omega), if_neg (by omega), if_pos (by omega)]; done) | (rw [if_pos (by omega), if_neg (by omega), if_neg (by omega), if_pos (by omega)]; done) | (rw [if_pos (by omega), if_neg (by omega), if_neg (by omega), if_neg (by omega)]; done)
            have e2 : sheetT σ (i : Int) s n = σ := by
              unfold sheetT
              try simp only [Int.toNat_natCast]
              first | (rw [if_neg (by omega)]; done) | (rw [if_pos (by omega), if_pos (by omega)]; done) | (rw [if_pos (by omega), if_neg (by omega), if_pos (by omega)]; done) | (rw [if_pos (by omega), if_neg (by omega), if_neg (by omega), if_pos (by omega)]; done) | (rw [if_pos (by omega), if_neg (by omega), if_neg (by omega), if_neg (by omega)]; done)
            rw [e1, e2]
            exact ⟨rfl, _, _, rfl, hC, frC_refl⟩
        · refine am_aload (q := 31) C dX10_sheet_29 rfl rfl ?_
          refine am_iconst (q := 32) (v := iZ (-1)) C dX10_sheet_31 rfl rfl ?_
          refine am_iconst (q := 33) (v := iZ 0) C dX10_sheet_32 rfl rfl ?_
          refine am_callN (q := 36) (As := [.int (iZ (-1)), .int (iZ 0)]) (rest := []) C mb_X7_become im_X7_become se_X7_become mn_X10_261 cb_7 (isS_c i hi).1 (show 183 + 2 * i < 215 by omega) dX10_sheet_33 rfl (sp_X7_become hi (s := (-1)) (z := 0) (by omega) ⟨by omega, by omega⟩) rfl rfl ⟨by decide, by decide⟩ ⟨Nat.le_refl _, Nat.le_refl _⟩ (Nat.le_of_ble_eq_true rfl) (am_rv (fun w' hw' => ?_))
          obtain ⟨I1, J1, rfl, hA1, hI1, hJ1⟩ := hw'
          refine am_iconst (q := 37) (v := iZ 1) C dX10_sheet_36 rfl rfl ?_
          refine am_iret C T dX10_sheet_37 rfl (Nat.le_refl _) (Nat.le_refl _) ⟨_, rfl, ?_⟩
          have e1 : sheetA (i : Int) s n = 1 := by
            unfold sheetA
            try simp only [Int.toNat_natCast]
            first | (rw [if_neg (by omega)]; done) | (rw [if_pos (by omega), if_pos (by omega)]; done) | (rw [if_pos (by omega), if_neg (by omega), if_pos (by omega)]; done) | (rw [if_pos (by omega), if_neg (by omega), if_neg (by omega), if_pos (by omega)]; done) | (rw [if_pos (by omega), if_neg (by omega), if_neg (by omega), if_neg (by omega)]; done)
          have e2 : sheetT σ (i : Int) s n = shS σ i (-1) (0) (fun _ => 0) := by
            unfold sheetT
            try simp only [Int.toNat_natCast]
            first | (rw [if_neg (by omega)]; done) | (rw [if_pos (by omega), if_pos (by omega)]; done) | (rw [if_pos (by omega), if_neg (by omega), if_pos (by omega)]; done) | (rw [if_pos (by omega), if_neg (by omega), if_neg (by omega), if_pos (by omega)]; done) | (rw [if_pos (by omega), if_neg (by omega), if_neg (by omega), if_neg (by omega)]; done)
          rw [e1, e2]
          have e3 : (max 0 (min (0 : Int) 60)).toNat = 0 := by omega
          rw [e3] at hA1
          exact ⟨rfl, _, _, rfl, atC_shS hC hi hA1 hI1 hJ1, frC_sh hi hI1 hJ1⟩
      · refine am_iconst (q := 23) (v := iZ (-1)) C dX10_sheet_22 rfl rfl ?_
        refine am_iret C T dX10_sheet_23 rfl (Nat.le_refl _) (Nat.le_refl _) ⟨_, rfl, ?_⟩
        have e1 : sheetA (i : Int) s n = (-1) := by
          unfold sheetA
          try simp only [Int.toNat_natCast]
          first | (rw [if_neg (by omega)]; done) | (rw [if_pos (by omega), if_pos (by omega)]; done) | (rw [if_pos (by omega), if_neg (by omega), if_pos (by omega)]; done) | (rw [if_pos (by omega), if_neg (by omega), if_neg (by omega), if_pos (by omega)]; done) | (rw [if_pos (by omega), if_neg (by omega), if_neg (by omega), if_neg (by omega)]; done)
        have e2 : sheetT σ (i : Int) s n = σ := by
          unfold sheetT
          try simp only [Int.toNat_natCast]
          first | (rw [if_neg (by omega)]; done) | (rw [if_pos (by omega), if_pos (by omega)]; done) | (rw [if_pos (by omega), if_neg (by omega), if_pos (by omega)]; done) | (rw [if_pos (by omega), if_neg (by omega), if_neg (by omega), if_pos (by omega)]; done) | (rw [if_pos (by omega), if_neg (by omega), if_neg (by omega), if_neg (by omega)]; done)
        rw [e1, e2]
        exact ⟨rfl, _, _, rfl, hC, frC_refl⟩
  · refine am_aload_n (q := 1) C dX10_sheet_0 rfl rfl ?_
    refine am_iload_n (q := 2) C dX10_sheet_1 rfl rfl ?_
    refine am_callV (q := 5) (As := [.int (iZ p)]) (rest := []) C mb_X10_sheetAt im_X10_sheetAt se_X10_sheetAt ml_X10_257 cb_10 kk_0 (show 0 < 215 by decide) dX10_sheet_2 rfl (sp_sheetAtO hp h0) rfl rfl ⟨by decide, by decide⟩ ⟨Nat.le_refl _, Nat.le_refl _⟩ (Nat.le_of_ble_eq_true rfl) (am_rre ?_)
    show am_A _ _ _ _ _ _ (.null :: _) _ _ _
    refine am_astoreN (q := 7) (L' := [some (.ref 0), some (.int (iZ p)), some (.int (iZ s)), some (.int (iZ n)), some (.null)]) C dX10_sheet_5 rfl (by decide) rfl rfl ?_
    refine am_aloadN (q := 9) C dX10_sheet_7 rfl rfl ?_
    refine am_ifnullN (q := 22) C dX10_sheet_9 (by decide) ?_
    refine am_iconst (q := 23) (v := iZ (-1)) C dX10_sheet_22 rfl rfl ?_
    refine am_iret C T dX10_sheet_23 rfl (Nat.le_refl _) (Nat.le_refl _) ⟨_, rfl, ?_⟩
    have e1 : sheetA p s n = (-1) := by
      unfold sheetA
      try simp only [Int.toNat_natCast]
      first | (rw [if_neg (by omega)]; done) | (rw [if_pos (by omega), if_pos (by omega)]; done) | (rw [if_pos (by omega), if_neg (by omega), if_pos (by omega)]; done) | (rw [if_pos (by omega), if_neg (by omega), if_neg (by omega), if_pos (by omega)]; done) | (rw [if_pos (by omega), if_neg (by omega), if_neg (by omega), if_neg (by omega)]; done)
    have e2 : sheetT σ p s n = σ := by
      unfold sheetT
      try simp only [Int.toNat_natCast]
      first | (rw [if_neg (by omega)]; done) | (rw [if_pos (by omega), if_pos (by omega)]; done) | (rw [if_pos (by omega), if_neg (by omega), if_pos (by omega)]; done) | (rw [if_pos (by omega), if_neg (by omega), if_neg (by omega), if_pos (by omega)]; done) | (rw [if_pos (by omega), if_neg (by omega), if_neg (by omega), if_neg (by omega)]; done)
    rw [e1, e2]
    exact ⟨rfl, _, _, rfl, hC, frC_refl⟩
def putA (σ : SG) (p k : Int) : Int := if 0 ≤ p ∧ p < 4 then (if sS σ p.toNat = -1 then -11 else if 0 ≤ k ∧ k < sN σ p.toNat then 1 else -12) else -1
def putT (σ : SG) (p k : Int) (v : Int64) : SG := if 0 ≤ p ∧ p < 4 then (if sS σ p.toNat = -1 then σ else if 0 ≤ k ∧ k < sN σ p.toNat then shS σ p.toNat (sS σ p.toNat) (sN σ p.toNat) (up1 (sF σ p.toNat) k.toNat (cutV (sS σ p.toNat) v)) else σ) else σ
def itemA (σ : SG) (p s k : Int) : Int32 := if (0 ≤ p ∧ p < 4) ∧ 0 ≤ s ∧ s ≤ 2 then (if sS σ p.toNat = -1 then iZ (-11) else if sS σ p.toNat = s then (if 0 ≤ k ∧ k < sN σ p.toNat then (sF σ p.toNat k.toNat).toInt32 else iZ (-12)) else iZ (-13)) else iZ (-1)
set_option maxRecDepth 4000 in
theorem sp_X10_put {σ : SG} (hC : atC I J σ) {p k : Int} (hp : rg p) (hk : rg k) {v : Int64} : am_S G mX10_put 2 0 0 [.ref 0, .int (iZ p), .int (iZ k), .long v] (215, kK, kR, I, J) (am_qi (fun v0 w' => v0 = iZ (putA σ p k) ∧ ∃ (I' : Nat → Nat → Int32) (J' : Nat → Nat → Int64), w' = (215, kK, kR, I', J') ∧ atC I' J' (putT σ p k v) ∧ frC I J I' J')) := by
  refine am_spec (plainFor_of_name (by decide +kernel)) (Nat.le_of_ble_eq_true rfl) (L := [some (.ref 0), some (.int (iZ p)), some (.int (iZ k)), some (.long v), none, none]) rfl (fun X C T => ?_)
  by_cases h0 : 0 ≤ p ∧ p < 4
  · obtain ⟨i, rfl⟩ : ∃ q : Nat, p = q := ⟨p.toNat, by omega⟩
    have hi : i < 4 := by omega
    have hA := atC_sh hC hi
    obtain ⟨a1, a2, a3, a4, a5, a6⟩ := hA
    refine am_aload_n (q := 1) C dX10_put_0 rfl rfl ?_
    refine am_iload_n (q := 2) C dX10_put_1 rfl rfl ?_
    refine am_callV (q := 5) (As := [.int (iZ (i : Int))]) (rest := []) C mb_X10_sheetAt im_X10_sheetAt se_X10_sheetAt ml_X10_257 cb_10 kk_0 (show 0 < 215 by decide) dX10_put_2 rfl (sp_sheetAtI hi) rfl rfl ⟨by decide, by decide⟩ ⟨Nat.le_refl _, Nat.le_refl _⟩ (Nat.le_of_ble_eq_true rfl) (am_rre ?_)
    show am_A _ _ _ _ _ _ (.ref (183 + 2 * i) :: _) _ _ _
    refine am_astore (q := 7) (L' := [some (.ref 0), some (.int (iZ (i : Int))), some (.int (iZ k)), some (.long v), none, some (.ref (183 + 2 * i))]) C dX10_put_5 rfl (by decide) rfl rfl ?_
    refine am_aload (q := 9) C dX10_put_7 rfl rfl ?_
    refine am_ifnonnull (q := 14) C dX10_put_9 (by decide) ?_
    refine am_aload (q := 16) C dX10_put_14 rfl rfl ?_
    refine am_getIe (q := 19) (v := (iZ (sS σ i))) C fb_X10_265 dX10_put_16 rfl rfl (isS_c i hi).1 (show 183 + 2 * i < 215 by omega) a1 ?_
    refine am_iconst (q := 20) (v := iZ (-1)) C dX10_put_19 rfl rfl ?_
    refine am_icmpZ_ne (q := 23) (tgt := 26) C dX10_put_20 (by decide) rfl ⟨by omega, by omega⟩ ⟨by omega, by omega⟩ (fun c1 => ?_) (fun c1 => ?_)
    · refine am_aload (q := 28) C dX10_put_26 rfl rfl ?_
      refine am_iload_n (q := 29) C dX10_put_28 rfl rfl ?_
      refine am_callN (q := 32) (As := [.int (iZ k)]) (rest := []) C mb_X7_hasPlace im_X7_hasPlace se_X7_hasPlace mn_X10_268 cb_7 (isS_c i hi).1 (show 183 + 2 * i < 215 by omega) dX10_put_29 rfl (sp_X7_hasPlace hi (atC_sh hC hi) hk) rfl rfl ⟨by decide, by decide⟩ ⟨Nat.le_refl _, Nat.le_refl _⟩ (Nat.le_of_ble_eq_true rfl) (am_rie ?_)
      refine am_ifB_ne (q := 35) (tgt := 38) C dX10_put_32 (by decide) rfl (fun c2 => ?_) (fun c2 => ?_)
      · refine am_aload (q := 40) C dX10_put_38 rfl rfl ?_
        refine am_getR (q := 43) C fb_X10_271 dX10_put_40 rfl rfl (isS_c i hi).1 (show 183 + 2 * i < 215 by omega) (isS_c i hi).2.2.1 ?_
        refine am_iload_n (q := 44) C dX10_put_43 rfl rfl ?_
        refine am_aload (q := 46) C dX10_put_44 rfl rfl ?_
        refine am_lload_n (q := 47) C dX10_put_46 rfl rfl ?_
        refine am_callN (q := 50) (As := [.long v]) (rest := [.int (iZ k), .ref (184 + 2 * i)]) C mb_X7_cut im_X7_cut se_X7_cut mn_X10_274 cb_7 (isS_c i hi).1 (show 183 + 2 * i < 215 by omega) dX10_put_47 rfl (sp_X7_cut hi (atC_sh hC hi)) rfl rfl ⟨by decide, by decide⟩ ⟨Nat.le_refl _, Nat.le_refl _⟩ (Nat.le_of_ble_eq_true rfl) (am_rle ?_)
        refine am_lastoreZ (q := 51) k.toNat C dX10_put_50 rfl (isS_c i hi).2.1 (show 184 + 2 * i < 215 by omega) (by omega) (by omega) (by decide) ?_
        refine am_iconst (q := 52) (v := iZ 1) C dX10_put_51 rfl rfl ?_
        refine am_iret C T dX10_put_52 rfl (Nat.le_refl _) (Nat.le_refl _) ⟨_, rfl, ?_⟩
        have e1 : putA σ (i : Int) k = 1 := by
          unfold putA
          try simp only [Int.toNat_natCast]
          first | (rw [if_neg (by omega)]; done) | (rw [if_pos (by omega), if_pos (by omega)]; done) | (rw [if_pos (by omega), if_neg (by omega), if_pos (by omega)]; done) | (rw [if_pos (by omega), if_neg (by omega), if_neg (by omega)]; done)
        have e2 : putT σ (i : Int) k v = shS σ i (sS σ i) (sN σ i) (up1 (sF σ i) k.toNat (cutV (sS σ i) v)) := by
          unfold putT
          try simp only [Int.toNat_natCast]
          first | (rw [if_neg (by omega)]; done) | (rw [if_pos (by omega), if_pos (by omega)]; done) | (rw [if_pos (by omega), if_neg (by omega), if_pos (by omega)]; done) | (rw [if_pos (by omega), if_neg (by omega), if_neg (by omega)]; done)
        rw [e1, e2]
        refine ⟨rfl, _, _, rfl, atC_shS hC hi ⟨a1, a2, a3, a4, a5, fun j hj => ?_⟩ (fun x hx => rfl) (fun x hx => am_up_row _ _ _ _ hx), frC_sh hi (fun x hx => rfl) (fun x hx => am_up_row _ _ _ _ hx)⟩
        by_cases e : j = k.toNat
        · rw [e, am_up_eq, up1_eq]
        · rw [am_up_ne _ _ _ _ (Or.inr e), up1_ne _ _ e]; exact a6 j hj
      · refine am_bipush (q := 37) (v := iZ (-12)) C dX10_put_35 rfl rfl ?_
        refine am_iret C T dX10_put_37 rfl (Nat.le_refl _) (Nat.le_refl _) ⟨_, rfl, ?_⟩
        have e1 : putA σ (i : Int) k = (-12) := by
          unfold putA
          try simp only [Int.toNat_natCast]
          first | (rw [if_neg (by omega)]; done) | (rw [if_pos (by omega), if_pos (by omega)]; done) | (rw [if_pos (by omega), if_neg (by omega), if_pos (by omega)]; done) | (rw [if_pos (by omega), if_neg (by omega), if_neg (by omega)]; done)
        have e2 : putT σ (i : Int) k v = σ := by
          unfold putT
          try simp only [Int.toNat_natCast]
          first | (rw [if_neg (by omega)]; done) | (rw [if_pos (by omega), if_pos (by omega)]; done) | (rw [if_pos (by omega), if_neg (by omega), if_pos (by omega)]; done) | (rw [if_pos (by omega), if_neg (by omega), if_neg (by omega)]; done)
        rw [e1, e2]
        exact ⟨rfl, _, _, rfl, hC, frC_refl⟩
    · refine am_bipush (q := 25) (v := iZ (-11)) C dX10_put_23 rfl rfl ?_
      refine am_iret C T dX10_put_25 rfl (Nat.le_refl _) (Nat.le_refl _) ⟨_, rfl, ?_⟩
      have e1 : putA σ (i : Int) k = (-11) := by
        unfold putA
        try simp only [Int.toNat_natCast]
        first | (rw [if_neg (by omega)]; done) | (rw [if_pos (by omega), if_pos (by omega)]; done) | (rw [if_pos (by omega), if_neg (by omega), if_pos (by omega)]; done) | (rw [if_pos (by omega), if_neg (by omega), if_neg (by omega)]; done)
      have e2 : putT σ (i : Int) k v = σ := by
        unfold putT
        try simp only [Int.toNat_natCast]
        first | (rw [if_neg (by omega)]; done) | (rw [if_pos (by omega), if_pos (by omega)]; done) | (rw [if_pos (by omega), if_neg (by omega), if_pos (by omega)]; done) | (rw [if_pos (by omega), if_neg (by omega), if_neg (by omega)]; done)
      rw [e1, e2]
      exact ⟨rfl, _, _, rfl, hC, frC_refl⟩
  · refine am_aload_n (q := 1) C dX10_put_0 rfl rfl ?_
    refine am_iload_n (q := 2) C dX10_put_1 rfl rfl ?_
    refine am_callV (q := 5) (As := [.int (iZ p)]) (rest := []) C mb_X10_sheetAt im_X10_sheetAt se_X10_sheetAt ml_X10_257 cb_10 kk_0 (show 0 < 215 by decide) dX10_put_2 rfl (sp_sheetAtO hp h0) rfl rfl ⟨by decide, by decide⟩ ⟨Nat.le_refl _, Nat.le_refl _⟩ (Nat.le_of_ble_eq_true rfl) (am_rre ?_)
    show am_A _ _ _ _ _ _ (.null :: _) _ _ _
    refine am_astoreN (q := 7) (L' := [some (.ref 0), some (.int (iZ p)), some (.int (iZ k)), some (.long v), none, some (.null)]) C dX10_put_5 rfl (by decide) rfl rfl ?_
    refine am_aloadN (q := 9) C dX10_put_7 rfl rfl ?_
    refine am_ifnonnullN (q := 12) C dX10_put_9 rfl ?_
    refine am_iconst (q := 13) (v := iZ (-1)) C dX10_put_12 rfl rfl ?_
    refine am_iret C T dX10_put_13 rfl (Nat.le_refl _) (Nat.le_refl _) ⟨_, rfl, ?_⟩
    have e1 : putA σ p k = (-1) := by
      unfold putA
      try simp only [Int.toNat_natCast]
      first | (rw [if_neg (by omega)]; done) | (rw [if_pos (by omega), if_pos (by omega)]; done) | (rw [if_pos (by omega), if_neg (by omega), if_pos (by omega)]; done) | (rw [if_pos (by omega), if_neg (by omega), if_neg (by omega)]; done)
    have e2 : putT σ p k v = σ := by
      unfold putT
      try simp only [Int.toNat_natCast]
      first | (rw [if_neg (by omega)]; done) | (rw [if_pos (by omega), if_pos (by omega)]; done) | (rw [if_pos (by omega), if_neg (by omega), if_pos (by omega)]; done) | (rw [if_pos (by omega), if_neg (by omega), if_neg (by omega)]; done)
    rw [e1, e2]
    exact ⟨rfl, _, _, rfl, hC, frC_refl⟩
set_option maxRecDepth 4000 in
theorem sp_X10_item {σ : SG} (hC : atC I J σ) {p s k : Int} (hp : rg p) (hs : rg s) (hk : rg k) : am_S G mX10_item 2 0 0 [.ref 0, .int (iZ p), .int (iZ s), .int (iZ k)] (215, kK, kR, I, J) (am_qi (fun v w' => v = itemA σ p s k ∧ ∃ (I' : Nat → Nat → Int32) (J' : Nat → Nat → Int64), w' = (215, kK, kR, I', J') ∧ atC I' J' (σ) ∧ frC I J I' J')) := by
  refine am_spec (plainFor_of_name (by decide +kernel)) (Nat.le_of_ble_eq_true rfl) (L := [some (.ref 0), some (.int (iZ p)), some (.int (iZ s)), some (.int (iZ k)), none]) rfl (fun X C T => ?_)
  by_cases h0 : 0 ≤ p ∧ p < 4
  · obtain ⟨i, rfl⟩ : ∃ q : Nat, p = q := ⟨p.toNat, by omega⟩
    have hi : i < 4 := by omega
    have hA := atC_sh hC hi
    obtain ⟨a1, a2, a3, a4, a5, a6⟩ := hA
    refine am_aload_n (q := 1) C dX10_item_0 rfl rfl ?_
    refine am_iload_n (q := 2) C dX10_item_1 rfl rfl ?_
    refine am_callV (q := 5) (As := [.int (iZ (i : Int))]) (rest := []) C mb_X10_sheetAt im_X10_sheetAt se_X10_sheetAt ml_X10_257 cb_10 kk_0 (show 0 < 215 by decide) dX10_item_2 rfl (sp_sheetAtI hi) rfl rfl ⟨by decide, by decide⟩ ⟨Nat.le_refl _, Nat.le_refl _⟩ (Nat.le_of_ble_eq_true rfl) (am_rre ?_)
    show am_A _ _ _ _ _ _ (.ref (183 + 2 * i) :: _) _ _ _
    refine am_astore (q := 7) (L' := [some (.ref 0), some (.int (iZ (i : Int))), some (.int (iZ s)), some (.int (iZ k)), some (.ref (183 + 2 * i))]) C dX10_item_5 rfl (by decide) rfl rfl ?_
    refine am_aload (q := 9) C dX10_item_7 rfl rfl ?_
    refine am_ifnull (q := 12) C dX10_item_9 rfl ?_
    refine am_iload_n (q := 13) C dX10_item_12 rfl rfl ?_
    refine am_ifZ_lt (q := 16) (tgt := 21) C dX10_item_13 (by decide) rfl hs (fun c1 => ?_) (fun c1 => ?_)
    · refine am_iconst (q := 22) (v := iZ (-1)) C dX10_item_21 rfl rfl ?_
      refine am_iret C T dX10_item_22 rfl (Nat.le_refl _) (Nat.le_refl _) ⟨_, rfl, ?_⟩
      have e1 : itemA σ (i : Int) s k = iZ (-1) := by
        unfold itemA
        try simp only [Int.toNat_natCast]
        first | (rw [if_neg (by omega)]; done) | (rw [if_pos (by omega), if_pos (by omega)]; done) | (rw [if_pos (by omega), if_neg (by omega), if_neg (by omega)]; done) | (rw [if_pos (by omega), if_neg (by omega), if_pos (by omega), if_neg (by omega)]; done) | (rw [if_pos (by omega), if_neg (by omega), if_pos (by omega), if_pos (by omega)]; done)
      rw [e1]
      exact ⟨rfl, _, _, rfl, hC, frC_refl⟩
    · refine am_iload_n (q := 17) C dX10_item_16 rfl rfl ?_
      refine am_iconst (q := 18) (v := iZ 2) C dX10_item_17 rfl rfl ?_
      refine am_icmpZ_le (q := 21) (tgt := 23) C dX10_item_18 (by decide) rfl hs ⟨by omega, by omega⟩ (fun c2 => ?_) (fun c2 => ?_)
      · refine am_aload (q := 25) C dX10_item_23 rfl rfl ?_
        refine am_getIe (q := 28) (v := (iZ (sS σ i))) C fb_X10_265 dX10_item_25 rfl rfl (isS_c i hi).1 (show 183 + 2 * i < 215 by omega) a1 ?_
        refine am_iconst (q := 29) (v := iZ (-1)) C dX10_item_28 rfl rfl ?_
        refine am_icmpZ_ne (q := 32) (tgt := 35) C dX10_item_29 (by decide) rfl ⟨by omega, by omega⟩ ⟨by omega, by omega⟩ (fun c3 => ?_) (fun c3 => ?_)
        · refine am_aload (q := 37) C dX10_item_35 rfl rfl ?_
          refine am_getIe (q := 40) (v := (iZ (sS σ i))) C fb_X10_265 dX10_item_37 rfl rfl (isS_c i hi).1 (show 183 + 2 * i < 215 by omega) a1 ?_
          refine am_iload_n (q := 41) C dX10_item_40 rfl rfl ?_
          refine am_icmpZ_eq (q := 44) (tgt := 47) C dX10_item_41 (by decide) rfl ⟨by omega, by omega⟩ hs (fun c4 => ?_) (fun c4 => ?_)
          · refine am_aload (q := 49) C dX10_item_47 rfl rfl ?_
            refine am_iload_n (q := 50) C dX10_item_49 rfl rfl ?_
            refine am_callN (q := 53) (As := [.int (iZ k)]) (rest := []) C mb_X7_hasPlace im_X7_hasPlace se_X7_hasPlace mn_X10_268 cb_7 (isS_c i hi).1 (show 183 + 2 * i < 215 by omega) dX10_item_50 rfl (sp_X7_hasPlace hi (atC_sh hC hi) hk) rfl rfl ⟨by decide, by decide⟩ ⟨Nat.le_refl _, Nat.le_refl _⟩ (Nat.le_of_ble_eq_true rfl) (am_rie ?_)
            refine am_ifB_ne (q := 56) (tgt := 59) C dX10_item_53 (by decide) rfl (fun c5 => ?_) (fun c5 => ?_)
            · refine am_aload (q := 61) C dX10_item_59 rfl rfl ?_
              refine am_getR (q := 64) C fb_X10_271 dX10_item_61 rfl rfl (isS_c i hi).1 (show 183 + 2 * i < 215 by omega) (isS_c i hi).2.2.1 ?_
              refine am_iload_n (q := 65) C dX10_item_64 rfl rfl ?_
              refine am_laloadZ (q := 66) k.toNat C dX10_item_65 rfl (isS_c i hi).2.1 (show 184 + 2 * i < 215 by omega) (by omega) (by omega) (by decide) ?_
              refine am_longE (y := (sF σ i k.toNat)) (a6 k.toNat (by omega)) ?_
              refine am_l2i (q := 67) C dX10_item_66 rfl ?_
              refine am_iret C T dX10_item_67 rfl (Nat.le_refl _) (Nat.le_refl _) ⟨_, rfl, ?_⟩
              have e1 : itemA σ (i : Int) s k = (sF σ i k.toNat).toInt32 := by
                unfold itemA
                try simp only [Int.toNat_natCast]
                first | (rw [if_neg (by omega)]; done) | (rw [if_pos (by omega), if_pos (by omega)]; done) | (rw [if_pos (by omega), if_neg (by omega), if_neg (by omega)]; done) | (rw [if_pos (by omega), if_neg (by omega), if_pos (by omega), if_neg (by omega)]; done) | (rw [if_pos (by omega), if_neg (by omega), if_pos (by omega), if_pos (by omega)]; done)
              rw [e1]
              exact ⟨rfl, _, _, rfl, hC, frC_refl⟩
            · refine am_bipush (q := 58) (v := iZ (-12)) C dX10_item_56 rfl rfl ?_
              refine am_iret C T dX10_item_58 rfl (Nat.le_refl _) (Nat.le_refl _) ⟨_, rfl, ?_⟩
              have e1 : itemA σ (i : Int) s k = iZ (-12) := by
                unfold itemA
                try simp only [Int.toNat_natCast]
                first | (rw [if_neg (by omega)]; done) | (rw [if_pos (by omega), if_pos (by omega)]; done) | (rw [if_pos (by omega), if_neg (by omega), if_neg (by omega)]; done) | (rw [if_pos (by omega), if_neg (by omega), if_pos (by omega), if_neg (by omega)]; done) | (rw [if_pos (by omega), if_neg (by omega), if_pos (by omega), if_pos (by omega)]; done)
              rw [e1]
              exact ⟨rfl, _, _, rfl, hC, frC_refl⟩
          · refine am_bipush (q := 46) (v := iZ (-13)) C dX10_item_44 rfl rfl ?_
            refine am_iret C T dX10_item_46 rfl (Nat.le_refl _) (Nat.le_refl _) ⟨_, rfl, ?_⟩
            have e1 : itemA σ (i : Int) s k = iZ (-13) := by
              unfold itemA
              try simp only [Int.toNat_natCast]
              first | (rw [if_neg (by omega)]; done) | (rw [if_pos (by omega), if_pos (by omega)]; done) | (rw [if_pos (by omega), if_neg (by omega), if_neg (by omega)]; done) | (rw [if_pos (by omega), if_neg (by omega), if_pos (by omega), if_neg (by omega)]; done) | (rw [if_pos (by omega), if_neg (by omega), if_pos (by omega), if_pos (by omega)]; done)
            rw [e1]
            exact ⟨rfl, _, _, rfl, hC, frC_refl⟩
        · refine am_bipush (q := 34) (v := iZ (-11)) C dX10_item_32 rfl rfl ?_
          refine am_iret C T dX10_item_34 rfl (Nat.le_refl _) (Nat.le_refl _) ⟨_, rfl, ?_⟩
          have e1 : itemA σ (i : Int) s k = iZ (-11) := by
            unfold itemA
            try simp only [Int.toNat_natCast]
            first | (rw [if_neg (by omega)]; done) | (rw [if_pos (by omega), if_pos (by omega)]; done) | (rw [if_pos (by omega), if_neg (by omega), if_neg (by omega)]; done) | (rw [if_pos (by omega), if_neg (by omega), if_pos (by omega), if_neg (by omega)]; done) | (rw [if_pos (by omega), if_neg (by omega), if_pos (by omega), if_pos (by omega)]; done)
          rw [e1]
          exact ⟨rfl, _, _, rfl, hC, frC_refl⟩
      · refine am_iconst (q := 22) (v := iZ (-1)) C dX10_item_21 rfl rfl ?_
        refine am_iret C T dX10_item_22 rfl (Nat.le_refl _) (Nat.le_refl _) ⟨_, rfl, ?_⟩
        have e1 : itemA σ (i : Int) s k = iZ (-1) := by
          unfold itemA
          try simp only [Int.toNat_natCast]
          first | (rw [if_neg (by omega)]; done) | (rw [if_pos (by omega), if_pos (by omega)]; done) | (rw [if_pos (by omega), if_neg (by omega), if_neg (by omega)]; done) | (rw [if_pos (by omega), if_neg (by omega), if_pos (by omega), if_neg (by omega)]; done) | (rw [if_pos (by omega), if_neg (by omega), if_pos (by omega), if_pos (by omega)]; done)
        rw [e1]
        exact ⟨rfl, _, _, rfl, hC, frC_refl⟩
  · refine am_aload_n (q := 1) C dX10_item_0 rfl rfl ?_
    refine am_iload_n (q := 2) C dX10_item_1 rfl rfl ?_
    refine am_callV (q := 5) (As := [.int (iZ p)]) (rest := []) C mb_X10_sheetAt im_X10_sheetAt se_X10_sheetAt ml_X10_257 cb_10 kk_0 (show 0 < 215 by decide) dX10_item_2 rfl (sp_sheetAtO hp h0) rfl rfl ⟨by decide, by decide⟩ ⟨Nat.le_refl _, Nat.le_refl _⟩ (Nat.le_of_ble_eq_true rfl) (am_rre ?_)
    show am_A _ _ _ _ _ _ (.null :: _) _ _ _
    refine am_astoreN (q := 7) (L' := [some (.ref 0), some (.int (iZ p)), some (.int (iZ s)), some (.int (iZ k)), some (.null)]) C dX10_item_5 rfl (by decide) rfl rfl ?_
    refine am_aloadN (q := 9) C dX10_item_7 rfl rfl ?_
    refine am_ifnullN (q := 21) C dX10_item_9 (by decide) ?_
    refine am_iconst (q := 22) (v := iZ (-1)) C dX10_item_21 rfl rfl ?_
    refine am_iret C T dX10_item_22 rfl (Nat.le_refl _) (Nat.le_refl _) ⟨_, rfl, ?_⟩
    have e1 : itemA σ p s k = iZ (-1) := by
      unfold itemA
      try simp only [Int.toNat_natCast]
      first | (rw [if_neg (by omega)]; done) | (rw [if_pos (by omega), if_pos (by omega)]; done) | (rw [if_pos (by omega), if_neg (by omega), if_neg (by omega)]; done) | (rw [if_pos (by omega), if_neg (by omega), if_pos (by omega), if_neg (by omega)]; done) | (rw [if_pos (by omega), if_neg (by omega), if_pos (by omega), if_pos (by omega)]; done)
    rw [e1]
    exact ⟨rfl, _, _, rfl, hC, frC_refl⟩
