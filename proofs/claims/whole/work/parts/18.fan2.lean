variable {G : am_G} {I : Nat → Nat → Int32} {J : Nat → Nat → Int64}
theorem gcd_le {a b : Nat} (ha : a ≤ 4) (hb : b ≤ 4) (hab : 1 ≤ a + b) : 1 ≤ Nat.gcd a b ∧ Nat.gcd a b ≤ 4 := by
  have h : ∀ a, a < 5 → ∀ b, b < 5 → 1 ≤ a + b → 1 ≤ Nat.gcd a b ∧ Nat.gcd a b ≤ 4 := by decide
  exact h a (by omega) b (by omega) hab
def cdv (a b : Nat) : Int := if (a : Int).tmod 4 = 0 ∧ (b : Int).tmod 4 = 0 then 4 else if (a : Int).tmod 3 = 0 ∧ (b : Int).tmod 3 = 0 then 3 else if (a : Int).tmod 2 = 0 ∧ (b : Int).tmod 2 = 0 then 2 else 1
theorem cdv_gcd {a b : Nat} (ha : a ≤ 4) (hb : b ≤ 4) (hab : 1 ≤ a + b) : cdv a b = (Nat.gcd a b : Int) := by
  have h : ∀ a, a < 5 → ∀ b, b < 5 → 1 ≤ a + b → cdv a b = (Nat.gcd a b : Int) := by decide
  exact h a (by omega) b (by omega) hab
theorem rg_tmod (a n : Nat) (h : a ≤ 4) : rg ((a : Int).tmod n) := by
  have e : (a : Int).tmod n = ((a % n : Nat) : Int) := rfl
  have h1 := Nat.mod_le a n
  rw [e]; exact ⟨by omega, by omega⟩
set_option maxRecDepth 4000 in
theorem sp_X1_commonDivisor {a b : Nat} (ha : a ≤ 4) (hb : b ≤ 4) (hab : 1 ≤ a + b) : am_S G mX1_commonDivisor 1 0 0 [.int (iZ (a : Int)), .int (iZ (b : Int))] (215, kK, kR, I, J) (am_fi (iZ (Nat.gcd a b : Int)) (215, kK, kR, I, J)) := by
  refine am_spec (plainFor_of_name (by decide +kernel)) (Nat.le_of_ble_eq_true rfl) (L := [some (.int (iZ (a : Int))), some (.int (iZ (b : Int))), none]) rfl (fun X C T => ?_)
  refine am_iconst (q := 1) (v := iZ 4) C dX1_commonDivisor_0 rfl rfl ?_
  refine am_istore_n (q := 2) (L' := [some (.int (iZ (a : Int))), some (.int (iZ (b : Int))), some (.int (iZ 4))]) C dX1_commonDivisor_1 rfl (by decide) rfl rfl ?_
  refine am_iload_n (q := 3) C dX1_commonDivisor_2 rfl rfl ?_
  refine am_iconst (q := 4) (v := iZ 1) C dX1_commonDivisor_3 rfl rfl ?_
  refine am_icmpZ_le (q := 7) (tgt := 27) C dX1_commonDivisor_4 (by decide) rfl ⟨by omega, by omega⟩ ⟨by omega, by omega⟩ (fun h1 => ?_) (fun h1 => ?_)
  · exact absurd h1 (by decide)
  · refine am_iload_n (q := 8) C dX1_commonDivisor_7 rfl rfl ?_
    refine am_iload_n (q := 9) C dX1_commonDivisor_8 rfl rfl ?_
    refine am_iremZ (q := 10) C dX1_commonDivisor_9 rfl ⟨by omega, by omega⟩ ⟨by omega, by omega⟩ (by omega) (by omega) ?_
    refine am_ifZ_ne (q := 13) (tgt := 21) C dX1_commonDivisor_10 (by decide) rfl (rg_tmod a 4 (by omega)) (fun h2 => ?_) (fun h2 => ?_)
    · refine am_iincZ (q := 24) (L' := [some (.int (iZ (a : Int))), some (.int (iZ (b : Int))), some (.int (iZ 3))]) C dX1_commonDivisor_21 rfl rfl (by omega) (by decide) rfl rfl ?_
      refine am_goto (q := 2) C dX1_commonDivisor_24 (by decide) ?_
      refine am_iload_n (q := 3) C dX1_commonDivisor_2 rfl rfl ?_
      refine am_iconst (q := 4) (v := iZ 1) C dX1_commonDivisor_3 rfl rfl ?_
      refine am_icmpZ_le (q := 7) (tgt := 27) C dX1_commonDivisor_4 (by decide) rfl ⟨by omega, by omega⟩ ⟨by omega, by omega⟩ (fun h3 => ?_) (fun h3 => ?_)
      · exact absurd h3 (by decide)
      · refine am_iload_n (q := 8) C dX1_commonDivisor_7 rfl rfl ?_
        refine am_iload_n (q := 9) C dX1_commonDivisor_8 rfl rfl ?_
        refine am_iremZ (q := 10) C dX1_commonDivisor_9 rfl ⟨by omega, by omega⟩ ⟨by omega, by omega⟩ (by omega) (by omega) ?_
        refine am_ifZ_ne (q := 13) (tgt := 21) C dX1_commonDivisor_10 (by decide) rfl (rg_tmod a 3 (by omega)) (fun h4 => ?_) (fun h4 => ?_)
        · refine am_iincZ (q := 24) (L' := [some (.int (iZ (a : Int))), some (.int (iZ (b : Int))), some (.int (iZ 2))]) C dX1_commonDivisor_21 rfl rfl (by omega) (by decide) rfl rfl ?_
          refine am_goto (q := 2) C dX1_commonDivisor_24 (by decide) ?_
          refine am_iload_n (q := 3) C dX1_commonDivisor_2 rfl rfl ?_
          refine am_iconst (q := 4) (v := iZ 1) C dX1_commonDivisor_3 rfl rfl ?_
          refine am_icmpZ_le (q := 7) (tgt := 27) C dX1_commonDivisor_4 (by decide) rfl ⟨by omega, by omega⟩ ⟨by omega, by omega⟩ (fun h5 => ?_) (fun h5 => ?_)
          · exact absurd h5 (by decide)
          · refine am_iload_n (q := 8) C dX1_commonDivisor_7 rfl rfl ?_
            refine am_iload_n (q := 9) C dX1_commonDivisor_8 rfl rfl ?_
            refine am_iremZ (q := 10) C dX1_commonDivisor_9 rfl ⟨by omega, by omega⟩ ⟨by omega, by omega⟩ (by omega) (by omega) ?_
            refine am_ifZ_ne (q := 13) (tgt := 21) C dX1_commonDivisor_10 (by decide) rfl (rg_tmod a 2 (by omega)) (fun h6 => ?_) (fun h6 => ?_)
            · refine am_iincZ (q := 24) (L' := [some (.int (iZ (a : Int))), some (.int (iZ (b : Int))), some (.int (iZ 1))]) C dX1_commonDivisor_21 rfl rfl (by omega) (by decide) rfl rfl ?_
              refine am_goto (q := 2) C dX1_commonDivisor_24 (by decide) ?_
              refine am_iload_n (q := 3) C dX1_commonDivisor_2 rfl rfl ?_
              refine am_iconst (q := 4) (v := iZ 1) C dX1_commonDivisor_3 rfl rfl ?_
              refine am_icmpZ_le (q := 7) (tgt := 27) C dX1_commonDivisor_4 (by decide) rfl ⟨by omega, by omega⟩ ⟨by omega, by omega⟩ (fun h7 => ?_) (fun h7 => ?_)
              · refine am_iconst (q := 28) (v := iZ 1) C dX1_commonDivisor_27 rfl rfl ?_
                refine am_iret C T dX1_commonDivisor_28 rfl (Nat.le_refl _) (Nat.le_refl _) ⟨_, rfl, ?_⟩
                refine ⟨?_, rfl⟩
                rw [← cdv_gcd ha hb hab]
                simp [cdv, *]
              · exact absurd h7 (by decide)
            · refine am_iload_n (q := 14) C dX1_commonDivisor_13 rfl rfl ?_
              refine am_iload_n (q := 15) C dX1_commonDivisor_14 rfl rfl ?_
              refine am_iremZ (q := 16) C dX1_commonDivisor_15 rfl ⟨by omega, by omega⟩ ⟨by omega, by omega⟩ (by omega) (by omega) ?_
              refine am_ifZ_ne (q := 19) (tgt := 21) C dX1_commonDivisor_16 (by decide) rfl (rg_tmod b 2 (by omega)) (fun h8 => ?_) (fun h8 => ?_)
              · refine am_iincZ (q := 24) (L' := [some (.int (iZ (a : Int))), some (.int (iZ (b : Int))), some (.int (iZ 1))]) C dX1_commonDivisor_21 rfl rfl (by omega) (by decide) rfl rfl ?_
                refine am_goto (q := 2) C dX1_commonDivisor_24 (by decide) ?_
                refine am_iload_n (q := 3) C dX1_commonDivisor_2 rfl rfl ?_
                refine am_iconst (q := 4) (v := iZ 1) C dX1_commonDivisor_3 rfl rfl ?_
                refine am_icmpZ_le (q := 7) (tgt := 27) C dX1_commonDivisor_4 (by decide) rfl ⟨by omega, by omega⟩ ⟨by omega, by omega⟩ (fun h9 => ?_) (fun h9 => ?_)
                · refine am_iconst (q := 28) (v := iZ 1) C dX1_commonDivisor_27 rfl rfl ?_
                  refine am_iret C T dX1_commonDivisor_28 rfl (Nat.le_refl _) (Nat.le_refl _) ⟨_, rfl, ?_⟩
                  refine ⟨?_, rfl⟩
                  rw [← cdv_gcd ha hb hab]
                  simp [cdv, *]
                · exact absurd h9 (by decide)
              · refine am_iload_n (q := 20) C dX1_commonDivisor_19 rfl rfl ?_
                refine am_iret C T dX1_commonDivisor_20 rfl (Nat.le_refl _) (Nat.le_refl _) ⟨_, rfl, ?_⟩
                refine ⟨?_, rfl⟩
                rw [← cdv_gcd ha hb hab]
                simp [cdv, *]
        · refine am_iload_n (q := 14) C dX1_commonDivisor_13 rfl rfl ?_
          refine am_iload_n (q := 15) C dX1_commonDivisor_14 rfl rfl ?_
          refine am_iremZ (q := 16) C dX1_commonDivisor_15 rfl ⟨by omega, by omega⟩ ⟨by omega, by omega⟩ (by omega) (by omega) ?_
          refine am_ifZ_ne (q := 19) (tgt := 21) C dX1_commonDivisor_16 (by decide) rfl (rg_tmod b 3 (by omega)) (fun h10 => ?_) (fun h10 => ?_)
          · refine am_iincZ (q := 24) (L' := [some (.int (iZ (a : Int))), some (.int (iZ (b : Int))), some (.int (iZ 2))]) C dX1_commonDivisor_21 rfl rfl (by omega) (by decide) rfl rfl ?_
            refine am_goto (q := 2) C dX1_commonDivisor_24 (by decide) ?_
            refine am_iload_n (q := 3) C dX1_commonDivisor_2 rfl rfl ?_
            refine am_iconst (q := 4) (v := iZ 1) C dX1_commonDivisor_3 rfl rfl ?_
            refine am_icmpZ_le (q := 7) (tgt := 27) C dX1_commonDivisor_4 (by decide) rfl ⟨by omega, by omega⟩ ⟨by omega, by omega⟩ (fun h11 => ?_) (fun h11 => ?_)
            · exact absurd h11 (by decide)
            · refine am_iload_n (q := 8) C dX1_commonDivisor_7 rfl rfl ?_
              refine am_iload_n (q := 9) C dX1_commonDivisor_8 rfl rfl ?_
              refine am_iremZ (q := 10) C dX1_commonDivisor_9 rfl ⟨by omega, by omega⟩ ⟨by omega, by omega⟩ (by omega) (by omega) ?_
              refine am_ifZ_ne (q := 13) (tgt := 21) C dX1_commonDivisor_10 (by decide) rfl (rg_tmod a 2 (by omega)) (fun h12 => ?_) (fun h12 => ?_)
              · refine am_iincZ (q := 24) (L' := [some (.int (iZ (a : Int))), some (.int (iZ (b : Int))), some (.int (iZ 1))]) C dX1_commonDivisor_21 rfl rfl (by omega) (by decide) rfl rfl ?_
                refine am_goto (q := 2) C dX1_commonDivisor_24 (by decide) ?_
                refine am_iload_n (q := 3) C dX1_commonDivisor_2 rfl rfl ?_
                refine am_iconst (q := 4) (v := iZ 1) C dX1_commonDivisor_3 rfl rfl ?_
                refine am_icmpZ_le (q := 7) (tgt := 27) C dX1_commonDivisor_4 (by decide) rfl ⟨by omega, by omega⟩ ⟨by omega, by omega⟩ (fun h13 => ?_) (fun h13 => ?_)
                · refine am_iconst (q := 28) (v := iZ 1) C dX1_commonDivisor_27 rfl rfl ?_
                  refine am_iret C T dX1_commonDivisor_28 rfl (Nat.le_refl _) (Nat.le_refl _) ⟨_, rfl, ?_⟩
                  refine ⟨?_, rfl⟩
                  rw [← cdv_gcd ha hb hab]
                  simp [cdv, *]
                · exact absurd h13 (by decide)
              · refine am_iload_n (q := 14) C dX1_commonDivisor_13 rfl rfl ?_
                refine am_iload_n (q := 15) C dX1_commonDivisor_14 rfl rfl ?_
                refine am_iremZ (q := 16) C dX1_commonDivisor_15 rfl ⟨by omega, by omega⟩ ⟨by omega, by omega⟩ (by omega) (by omega) ?_
                refine am_ifZ_ne (q := 19) (tgt := 21) C dX1_commonDivisor_16 (by decide) rfl (rg_tmod b 2 (by omega)) (fun h14 => ?_) (fun h14 => ?_)
                · refine am_iincZ (q := 24) (L' := [some (.int (iZ (a : Int))), some (.int (iZ (b : Int))), some (.int (iZ 1))]) C dX1_commonDivisor_21 rfl rfl (by omega) (by decide) rfl rfl ?_
                  refine am_goto (q := 2) C dX1_commonDivisor_24 (by decide) ?_
                  refine am_iload_n (q := 3) C dX1_commonDivisor_2 rfl rfl ?_
                  refine am_iconst (q := 4) (v := iZ 1) C dX1_commonDivisor_3 rfl rfl ?_
                  refine am_icmpZ_le (q := 7) (tgt := 27) C dX1_commonDivisor_4 (by decide) rfl ⟨by omega, by omega⟩ ⟨by omega, by omega⟩ (fun h15 => ?_) (fun h15 => ?_)
                  · refine am_iconst (q := 28) (v := iZ 1) C dX1_commonDivisor_27 rfl rfl ?_
                    refine am_iret C T dX1_commonDivisor_28 rfl (Nat.le_refl _) (Nat.le_refl _) ⟨_, rfl, ?_⟩
                    refine ⟨?_, rfl⟩
                    rw [← cdv_gcd ha hb hab]
                    simp [cdv, *]
                  · exact absurd h15 (by decide)
                · refine am_iload_n (q := 20) C dX1_commonDivisor_19 rfl rfl ?_
                  refine am_iret C T dX1_commonDivisor_20 rfl (Nat.le_refl _) (Nat.le_refl _) ⟨_, rfl, ?_⟩
                  refine ⟨?_, rfl⟩
                  rw [← cdv_gcd ha hb hab]
                  simp [cdv, *]
          · refine am_iload_n (q := 20) C dX1_commonDivisor_19 rfl rfl ?_
            refine am_iret C T dX1_commonDivisor_20 rfl (Nat.le_refl _) (Nat.le_refl _) ⟨_, rfl, ?_⟩
            refine ⟨?_, rfl⟩
            rw [← cdv_gcd ha hb hab]
            simp [cdv, *]
    · refine am_iload_n (q := 14) C dX1_commonDivisor_13 rfl rfl ?_
      refine am_iload_n (q := 15) C dX1_commonDivisor_14 rfl rfl ?_
      refine am_iremZ (q := 16) C dX1_commonDivisor_15 rfl ⟨by omega, by omega⟩ ⟨by omega, by omega⟩ (by omega) (by omega) ?_
      refine am_ifZ_ne (q := 19) (tgt := 21) C dX1_commonDivisor_16 (by decide) rfl (rg_tmod b 4 (by omega)) (fun h16 => ?_) (fun h16 => ?_)
      · refine am_iincZ (q := 24) (L' := [some (.int (iZ (a : Int))), some (.int (iZ (b : Int))), some (.int (iZ 3))]) C dX1_commonDivisor_21 rfl rfl (by omega) (by decide) rfl rfl ?_
        refine am_goto (q := 2) C dX1_commonDivisor_24 (by decide) ?_
        refine am_iload_n (q := 3) C dX1_commonDivisor_2 rfl rfl ?_
        refine am_iconst (q := 4) (v := iZ 1) C dX1_commonDivisor_3 rfl rfl ?_
        refine am_icmpZ_le (q := 7) (tgt := 27) C dX1_commonDivisor_4 (by decide) rfl ⟨by omega, by omega⟩ ⟨by omega, by omega⟩ (fun h17 => ?_) (fun h17 => ?_)
        · exact absurd h17 (by decide)
        · refine am_iload_n (q := 8) C dX1_commonDivisor_7 rfl rfl ?_
          refine am_iload_n (q := 9) C dX1_commonDivisor_8 rfl rfl ?_
          refine am_iremZ (q := 10) C dX1_commonDivisor_9 rfl ⟨by omega, by omega⟩ ⟨by omega, by omega⟩ (by omega) (by omega) ?_
          refine am_ifZ_ne (q := 13) (tgt := 21) C dX1_commonDivisor_10 (by decide) rfl (rg_tmod a 3 (by omega)) (fun h18 => ?_) (fun h18 => ?_)
          · refine am_iincZ (q := 24) (L' := [some (.int (iZ (a : Int))), some (.int (iZ (b : Int))), some (.int (iZ 2))]) C dX1_commonDivisor_21 rfl rfl (by omega) (by decide) rfl rfl ?_
            refine am_goto (q := 2) C dX1_commonDivisor_24 (by decide) ?_
            refine am_iload_n (q := 3) C dX1_commonDivisor_2 rfl rfl ?_
            refine am_iconst (q := 4) (v := iZ 1) C dX1_commonDivisor_3 rfl rfl ?_
            refine am_icmpZ_le (q := 7) (tgt := 27) C dX1_commonDivisor_4 (by decide) rfl ⟨by omega, by omega⟩ ⟨by omega, by omega⟩ (fun h19 => ?_) (fun h19 => ?_)
            · exact absurd h19 (by decide)
            · refine am_iload_n (q := 8) C dX1_commonDivisor_7 rfl rfl ?_
              refine am_iload_n (q := 9) C dX1_commonDivisor_8 rfl rfl ?_
              refine am_iremZ (q := 10) C dX1_commonDivisor_9 rfl ⟨by omega, by omega⟩ ⟨by omega, by omega⟩ (by omega) (by omega) ?_
              refine am_ifZ_ne (q := 13) (tgt := 21) C dX1_commonDivisor_10 (by decide) rfl (rg_tmod a 2 (by omega)) (fun h20 => ?_) (fun h20 => ?_)
              · refine am_iincZ (q := 24) (L' := [some (.int (iZ (a : Int))), some (.int (iZ (b : Int))), some (.int (iZ 1))]) C dX1_commonDivisor_21 rfl rfl (by omega) (by decide) rfl rfl ?_
                refine am_goto (q := 2) C dX1_commonDivisor_24 (by decide) ?_
                refine am_iload_n (q := 3) C dX1_commonDivisor_2 rfl rfl ?_
                refine am_iconst (q := 4) (v := iZ 1) C dX1_commonDivisor_3 rfl rfl ?_
                refine am_icmpZ_le (q := 7) (tgt := 27) C dX1_commonDivisor_4 (by decide) rfl ⟨by omega, by omega⟩ ⟨by omega, by omega⟩ (fun h21 => ?_) (fun h21 => ?_)
                · refine am_iconst (q := 28) (v := iZ 1) C dX1_commonDivisor_27 rfl rfl ?_
                  refine am_iret C T dX1_commonDivisor_28 rfl (Nat.le_refl _) (Nat.le_refl _) ⟨_, rfl, ?_⟩
                  refine ⟨?_, rfl⟩
                  rw [← cdv_gcd ha hb hab]
                  simp [cdv, *]
                · exact absurd h21 (by decide)
              · refine am_iload_n (q := 14) C dX1_commonDivisor_13 rfl rfl ?_
                refine am_iload_n (q := 15) C dX1_commonDivisor_14 rfl rfl ?_
                refine am_iremZ (q := 16) C dX1_commonDivisor_15 rfl ⟨by omega, by omega⟩ ⟨by omega, by omega⟩ (by omega) (by omega) ?_
                refine am_ifZ_ne (q := 19) (tgt := 21) C dX1_commonDivisor_16 (by decide) rfl (rg_tmod b 2 (by omega)) (fun h22 => ?_) (fun h22 => ?_)
                · refine am_iincZ (q := 24) (L' := [some (.int (iZ (a : Int))), some (.int (iZ (b : Int))), some (.int (iZ 1))]) C dX1_commonDivisor_21 rfl rfl (by omega) (by decide) rfl rfl ?_
                  refine am_goto (q := 2) C dX1_commonDivisor_24 (by decide) ?_
                  refine am_iload_n (q := 3) C dX1_commonDivisor_2 rfl rfl ?_
                  refine am_iconst (q := 4) (v := iZ 1) C dX1_commonDivisor_3 rfl rfl ?_
                  refine am_icmpZ_le (q := 7) (tgt := 27) C dX1_commonDivisor_4 (by decide) rfl ⟨by omega, by omega⟩ ⟨by omega, by omega⟩ (fun h23 => ?_) (fun h23 => ?_)
                  · refine am_iconst (q := 28) (v := iZ 1) C dX1_commonDivisor_27 rfl rfl ?_
                    refine am_iret C T dX1_commonDivisor_28 rfl (Nat.le_refl _) (Nat.le_refl _) ⟨_, rfl, ?_⟩
                    refine ⟨?_, rfl⟩
                    rw [← cdv_gcd ha hb hab]
                    simp [cdv, *]
                  · exact absurd h23 (by decide)
                · refine am_iload_n (q := 20) C dX1_commonDivisor_19 rfl rfl ?_
                  refine am_iret C T dX1_commonDivisor_20 rfl (Nat.le_refl _) (Nat.le_refl _) ⟨_, rfl, ?_⟩
                  refine ⟨?_, rfl⟩
                  rw [← cdv_gcd ha hb hab]
                  simp [cdv, *]
          · refine am_iload_n (q := 14) C dX1_commonDivisor_13 rfl rfl ?_
            refine am_iload_n (q := 15) C dX1_commonDivisor_14 rfl rfl ?_
            refine am_iremZ (q := 16) C dX1_commonDivisor_15 rfl ⟨by omega, by omega⟩ ⟨by omega, by omega⟩ (by omega) (by omega) ?_
            refine am_ifZ_ne (q := 19) (tgt := 21) C dX1_commonDivisor_16 (by decide) rfl (rg_tmod b 3 (by omega)) (fun h24 => ?_) (fun h24 => ?_)
            · refine am_iincZ (q := 24) (L' := [some (.int (iZ (a : Int))), some (.int (iZ (b : Int))), some (.int (iZ 2))]) C dX1_commonDivisor_21 rfl rfl (by omega) (by decide) rfl rfl ?_
              refine am_goto (q := 2) C dX1_commonDivisor_24 (by decide) ?_
              refine am_iload_n (q := 3) C dX1_commonDivisor_2 rfl rfl ?_
              refine am_iconst (q := 4) (v := iZ 1) C dX1_commonDivisor_3 rfl rfl ?_
              refine am_icmpZ_le (q := 7) (tgt := 27) C dX1_commonDivisor_4 (by decide) rfl ⟨by omega, by omega⟩ ⟨by omega, by omega⟩ (fun h25 => ?_) (fun h25 => ?_)
              · exact absurd h25 (by decide)
              · refine am_iload_n (q := 8) C dX1_commonDivisor_7 rfl rfl ?_
                refine am_iload_n (q := 9) C dX1_commonDivisor_8 rfl rfl ?_
                refine am_iremZ (q := 10) C dX1_commonDivisor_9 rfl ⟨by omega, by omega⟩ ⟨by omega, by omega⟩ (by omega) (by omega) ?_
                refine am_ifZ_ne (q := 13) (tgt := 21) C dX1_commonDivisor_10 (by decide) rfl (rg_tmod a 2 (by omega)) (fun h26 => ?_) (fun h26 => ?_)
                · refine am_iincZ (q := 24) (L' := [some (.int (iZ (a : Int))), some (.int (iZ (b : Int))), some (.int (iZ 1))]) C dX1_commonDivisor_21 rfl rfl (by omega) (by decide) rfl rfl ?_
                  refine am_goto (q := 2) C dX1_commonDivisor_24 (by decide) ?_
                  refine am_iload_n (q := 3) C dX1_commonDivisor_2 rfl rfl ?_
                  refine am_iconst (q := 4) (v := iZ 1) C dX1_commonDivisor_3 rfl rfl ?_
                  refine am_icmpZ_le (q := 7) (tgt := 27) C dX1_commonDivisor_4 (by decide) rfl ⟨by omega, by omega⟩ ⟨by omega, by omega⟩ (fun h27 => ?_) (fun h27 => ?_)
                  · refine am_iconst (q := 28) (v := iZ 1) C dX1_commonDivisor_27 rfl rfl ?_
                    refine am_iret C T dX1_commonDivisor_28 rfl (Nat.le_refl _) (Nat.le_refl _) ⟨_, rfl, ?_⟩
                    refine ⟨?_, rfl⟩
                    rw [← cdv_gcd ha hb hab]
                    simp [cdv, *]
                  · exact absurd h27 (by decide)
                · refine am_iload_n (q := 14) C dX1_commonDivisor_13 rfl rfl ?_
                  refine am_iload_n (q := 15) C dX1_commonDivisor_14 rfl rfl ?_
                  refine am_iremZ (q := 16) C dX1_commonDivisor_15 rfl ⟨by omega, by omega⟩ ⟨by omega, by omega⟩ (by omega) (by omega) ?_
                  refine am_ifZ_ne (q := 19) (tgt := 21) C dX1_commonDivisor_16 (by decide) rfl (rg_tmod b 2 (by omega)) (fun h28 => ?_) (fun h28 => ?_)
                  · refine am_iincZ (q := 24) (L' := [some (.int (iZ (a : Int))), some (.int (iZ (b : Int))), some (.int (iZ 1))]) C dX1_commonDivisor_21 rfl rfl (by omega) (by decide) rfl rfl ?_
                    refine am_goto (q := 2) C dX1_commonDivisor_24 (by decide) ?_
                    refine am_iload_n (q := 3) C dX1_commonDivisor_2 rfl rfl ?_
                    refine am_iconst (q := 4) (v := iZ 1) C dX1_commonDivisor_3 rfl rfl ?_
                    refine am_icmpZ_le (q := 7) (tgt := 27) C dX1_commonDivisor_4 (by decide) rfl ⟨by omega, by omega⟩ ⟨by omega, by omega⟩ (fun h29 => ?_) (fun h29 => ?_)
                    · refine am_iconst (q := 28) (v := iZ 1) C dX1_commonDivisor_27 rfl rfl ?_
                      refine am_iret C T dX1_commonDivisor_28 rfl (Nat.le_refl _) (Nat.le_refl _) ⟨_, rfl, ?_⟩
                      refine ⟨?_, rfl⟩
                      rw [← cdv_gcd ha hb hab]
                      simp [cdv, *]
                    · exact absurd h29 (by decide)
                  · refine am_iload_n (q := 20) C dX1_commonDivisor_19 rfl rfl ?_
                    refine am_iret C T dX1_commonDivisor_20 rfl (Nat.le_refl _) (Nat.le_refl _) ⟨_, rfl, ?_⟩
                    refine ⟨?_, rfl⟩
                    rw [← cdv_gcd ha hb hab]
                    simp [cdv, *]
            · refine am_iload_n (q := 20) C dX1_commonDivisor_19 rfl rfl ?_
              refine am_iret C T dX1_commonDivisor_20 rfl (Nat.le_refl _) (Nat.le_refl _) ⟨_, rfl, ?_⟩
              refine ⟨?_, rfl⟩
              rw [← cdv_gcd ha hb hab]
              simp [cdv, *]
      · refine am_iload_n (q := 20) C dX1_commonDivisor_19 rfl rfl ?_
        refine am_iret C T dX1_commonDivisor_20 rfl (Nat.le_refl _) (Nat.le_refl _) ⟨_, rfl, ?_⟩
        refine ⟨?_, rfl⟩
        rw [← cdv_gcd ha hb hab]
        simp [cdv, *]
def lcm0 (x d : Nat) : Nat := if d = 0 then x else Nat.lcm x d
theorem lcm_first {x d t : Nat} (hx : 1 ≤ x) (hd : 1 ≤ d) (ht : 1 ≤ t) (h : x * t % d = 0) (hno : ∀ j, 1 ≤ j → j < t → x * j % d ≠ 0) : x * t = Nat.lcm x d := by
  have h1 : Nat.lcm x d ∣ x * t := Nat.lcm_dvd (Nat.dvd_mul_right _ _) (Nat.dvd_of_mod_eq_zero h)
  obtain ⟨j, hj⟩ := Nat.dvd_lcm_left x d
  have hl : 0 < Nat.lcm x d := Nat.lcm_pos (by omega) (by omega)
  have hj0 : 1 ≤ j := by
    rcases Nat.eq_zero_or_pos j with h0 | h0
    · rw [h0, Nat.mul_zero] at hj; omega
    · exact h0
  have hle := Nat.le_of_dvd (Nat.mul_pos (by omega) (by omega)) h1
  rw [hj] at hle ⊢
  have hjt : j ≤ t := Nat.le_of_mul_le_mul_left hle (by omega)
  rcases Nat.lt_or_ge j t with h2 | h2
  · exact absurd (Nat.mod_eq_zero_of_dvd (hj ▸ Nat.dvd_lcm_right x d)) (hno j hj0 h2)
  · rw [show j = t by omega]
theorem lcm_last {x d : Nat} (hx : 1 ≤ x) (hd : 1 ≤ d) (hno : ∀ j, 1 ≤ j → j < d → x * j % d ≠ 0) : x * d = Nat.lcm x d := lcm_first hx hd hd (Nat.mul_mod_left _ _) hno
theorem mul_b {x t : Nat} (hx : x ≤ 720720) (ht : t ≤ 16) : x * t ≤ 11531520 := Nat.mul_le_mul hx ht
theorem rg_mul_nat {x t : Nat} (h : x * t ≤ 11531520) : rg ((x : Int) * (t : Int)) := by
  have e : (x : Int) * (t : Int) = ((x * t : Nat) : Int) := by simp
  rw [e]; exact ⟨by omega, by omega⟩
theorem rg_tm (a b : Nat) (h : 0 < b ∧ b ≤ 16) : rg ((a : Int).tmod (b : Int)) := by
  have e : (a : Int).tmod (b : Int) = ((a % b : Nat) : Int) := rfl
  have h1 := Nat.mod_lt a h.1
  rw [e]; exact ⟨by omega, by omega⟩
set_option maxRecDepth 4000 in
theorem sp_X1_commonMultiple {x d : Nat} (hx : 1 ≤ x) (hx2 : x ≤ 720720) (hd : d ≤ 16) : am_S G mX1_commonMultiple 1 0 0 [.int (iZ (x : Int)), .int (iZ (d : Int))] (215, kK, kR, I, J) (am_fi (iZ (lcm0 x d : Int)) (215, kK, kR, I, J)) := by
  refine am_spec (plainFor_of_name (by decide +kernel)) (Nat.le_of_ble_eq_true rfl) (L := [some (.int (iZ (x : Int))), some (.int (iZ (d : Int))), none]) rfl (fun X C T => ?_)
  have lp : ∀ (fuel : Nat) (t : Nat), (1 ≤ t) → (t ≤ d) → (∀ j, 1 ≤ j → j < t → x * j % d ≠ 0) → (d - t) < fuel → am_A G mX1_commonMultiple X (am_rm 1 0 0) 9 [some (.int (iZ (x : Int))), some (.int (iZ (d : Int))), some (.int (iZ (t : Int)))] [] (215, kK, kR, I, J) 0 0 := by
    intro fuel
    induction fuel with
    | zero => intro t ht htd hno hf; exact absurd hf (Nat.not_lt_zero _)
    | succ fuel ih =>
      intro t ht htd hno hf
      refine am_iload_n (q := 10) C dX1_commonMultiple_9 rfl rfl ?_
      refine am_iload_n (q := 11) C dX1_commonMultiple_10 rfl rfl ?_
      refine am_icmpZ_ge (q := 14) (tgt := 32) C dX1_commonMultiple_11 (by decide) rfl ⟨by omega, by omega⟩ ⟨by omega, by omega⟩ (fun h1 => ?_) (fun h1 => ?_)
      · refine am_iload_n (q := 33) C dX1_commonMultiple_32 rfl rfl ?_
        refine am_iload_n (q := 34) C dX1_commonMultiple_33 rfl rfl ?_
        refine am_imulZ (q := 35) C dX1_commonMultiple_34 rfl ?_
        refine am_iret C T dX1_commonMultiple_35 rfl (Nat.le_refl _) (Nat.le_refl _) ⟨_, rfl, ?_⟩
        refine ⟨congrArg iZ ?_, rfl⟩
        unfold lcm0; rw [if_neg (by omega), ← Int.natCast_mul, lcm_last hx (by omega) (fun j h1 h2 => hno j h1 (by omega))]
      · refine am_iload_n (q := 15) C dX1_commonMultiple_14 rfl rfl ?_
        refine am_iload_n (q := 16) C dX1_commonMultiple_15 rfl rfl ?_
        refine am_imulZ (q := 17) C dX1_commonMultiple_16 rfl ?_
        refine am_iload_n (q := 18) C dX1_commonMultiple_17 rfl rfl ?_
        refine am_iremZ (q := 19) C dX1_commonMultiple_18 rfl (rg_mul_nat (mul_b hx2 (show t ≤ 16 by omega))) ⟨by omega, by omega⟩ (by omega) (by omega) ?_
        refine am_intE (y := (iZ ((x * t % d : Nat) : Int))) (show iZ (((x : Int) * (t : Int)).tmod (d : Int)) = iZ ((x * t % d : Nat) : Int) from congrArg iZ (by rw [← Int.natCast_mul]; rfl)) ?_
        refine am_ifZ_ne (q := 22) (tgt := 26) C dX1_commonMultiple_19 (by decide) rfl ⟨by omega, by have := Nat.mod_lt (x * t) (show 0 < d by omega); omega⟩ (fun h2 => ?_) (fun h2 => ?_)
        · refine am_iincZ (q := 29) (L' := [some (.int (iZ (x : Int))), some (.int (iZ (d : Int))), some (.int (iZ ((t + 1 : Nat) : Int)))]) C dX1_commonMultiple_26 rfl rfl (by omega) (by decide) rfl rfl ?_
          refine am_goto (q := 9) C dX1_commonMultiple_29 (by decide) ?_
          exact ih (t + 1) (by omega) (by omega) (fun j h1 h2 => by
            rcases Nat.lt_or_ge j t with h3 | h3
            · exact hno j h1 h3
            · rw [show j = t by omega]; omega) (by omega)
        · refine am_iload_n (q := 23) C dX1_commonMultiple_22 rfl rfl ?_
          refine am_iload_n (q := 24) C dX1_commonMultiple_23 rfl rfl ?_
          refine am_imulZ (q := 25) C dX1_commonMultiple_24 rfl ?_
          refine am_iret C T dX1_commonMultiple_25 rfl (Nat.le_refl _) (Nat.le_refl _) ⟨_, rfl, ?_⟩
          refine ⟨congrArg iZ ?_, rfl⟩
          unfold lcm0; rw [if_neg (by omega), ← Int.natCast_mul, lcm_first hx (by omega) ht (by omega) hno]
  refine am_iload_n (q := 1) C dX1_commonMultiple_0 rfl rfl ?_
  refine am_iconst (q := 2) (v := iZ 1) C dX1_commonMultiple_1 rfl rfl ?_
  refine am_icmpZ_ge (q := 5) (tgt := 7) C dX1_commonMultiple_2 (by decide) rfl ⟨by omega, by omega⟩ ⟨by omega, by omega⟩ (fun h3 => ?_) (fun h3 => ?_)
  · refine am_iconst (q := 8) (v := iZ 1) C dX1_commonMultiple_7 rfl rfl ?_
    refine am_istore_n (q := 9) (L' := [some (.int (iZ (x : Int))), some (.int (iZ (d : Int))), some (.int (iZ 1))]) C dX1_commonMultiple_8 rfl (by decide) rfl rfl ?_
    exact lp (d + 1) 1 (by omega) (by omega) (fun j h1 h2 => by omega) (by omega)
  · refine am_iload_n (q := 6) C dX1_commonMultiple_5 rfl rfl ?_
    refine am_iret C T dX1_commonMultiple_6 rfl (Nat.le_refl _) (Nat.le_refl _) ⟨_, rfl, ?_⟩
    refine ⟨congrArg iZ ?_, rfl⟩
    unfold lcm0; rw [if_pos (by omega)]

set_option maxRecDepth 4000 in
theorem sp_fillI {h len : Nat} (hk : kK h = (20, len)) (hh : h < 215) (hl : len < 2147483648) {v : Int32} : am_S G mJ7_fill_53178 1 0 0 [.ref h, .int v] (215, kK, kR, I, J) (am_qv (fun w' => ∃ I' : Nat → Nat → Int32, w' = (215, kK, kR, I', J) ∧ (∀ x, x ≠ h → I' x = I x) ∧ ∀ k, k < len → I' h k = v)) := by
  refine am_spec (plainFor_of_name (by decide +kernel)) (Nat.le_of_ble_eq_true rfl) (L := [some (.ref h), some (.int v), none, none]) rfl (fun X C T => ?_)
  have lp : ∀ (fuel : Nat) (k : Nat) (I1 : Nat → Nat → Int32), (k ≤ len) → (∀ x, x ≠ h → I1 x = I x) → (∀ j, j < k → I1 h j = v) → (len - k) < fuel → am_A G mJ7_fill_53178 X (am_rm 1 0 0) 5 [some (.ref h), some (.int v), some (.int (iZ (k : Int))), some (.int (iZ (len : Int)))] [] (215, kK, kR, I1, J) 0 0 := by
    intro fuel
    induction fuel with
    | zero => intro k I1 hkl hI hv hf; exact absurd hf (Nat.not_lt_zero _)
    | succ fuel ih =>
      intro k I1 hkl hI hv hf
      refine am_iload_n (q := 6) C dJ7_fill_53178_5 rfl rfl ?_
      refine am_iload_n (q := 7) C dJ7_fill_53178_6 rfl rfl ?_
      refine am_icmpZ_ge (q := 10) (tgt := 20) C dJ7_fill_53178_7 (by decide) rfl ⟨by omega, by omega⟩ ⟨by omega, by omega⟩ (fun h1 => ?_) (fun h1 => ?_)
      · refine am_vret C T dJ7_fill_53178_20 rfl (Nat.le_refl _) (Nat.le_refl _) ⟨rfl, ?_⟩
        exact ⟨_, rfl, hI, fun j hj => hv j (by omega)⟩
      · refine am_aload_n (q := 11) C dJ7_fill_53178_10 rfl rfl ?_
        refine am_iload_n (q := 12) C dJ7_fill_53178_11 rfl rfl ?_
        refine am_iload_n (q := 13) C dJ7_fill_53178_12 rfl rfl ?_
        refine am_iastoreZ (q := 14) k C dJ7_fill_53178_13 rfl hk hh rfl (by omega) hl ?_
        refine am_iincZ (q := 17) (L' := [some (.ref h), some (.int v), some (.int (iZ ((k + 1 : Nat) : Int))), some (.int (iZ (len : Int)))]) C dJ7_fill_53178_14 rfl rfl (by omega) (by decide) rfl rfl ?_
        refine am_goto (q := 5) C dJ7_fill_53178_17 (by decide) ?_
        exact ih (k + 1) _ (by omega) (fun x hx => by rw [am_up_row _ _ _ _ hx]; exact hI x hx) (fun j hj => by
          by_cases e : j = k
          · subst e; exact am_up_eq _ _ _ _
          · rw [am_up_ne _ _ _ _ (Or.inr e)]; exact hv j (by omega)) (by omega)
  refine am_iconst (q := 1) (v := iZ 0) C dJ7_fill_53178_0 rfl rfl ?_
  refine am_istore_n (q := 2) (L' := [some (.ref h), some (.int v), some (.int (iZ 0)), none]) C dJ7_fill_53178_1 rfl (by decide) rfl rfl ?_
  refine am_aload_n (q := 3) C dJ7_fill_53178_2 rfl rfl ?_
  refine am_alen (q := 4) (t := 0) (v := iZ (len : Int)) C dJ7_fill_53178_3 rfl hk (by decide) hh (by rw [← iZ_nI]; rfl) ?_
  refine am_istore_n (q := 5) (L' := [some (.ref h), some (.int v), some (.int (iZ 0)), some (.int (iZ (len : Int)))]) C dJ7_fill_53178_4 rfl (by decide) rfl rfl ?_
  exact lp (len + 1) 0 I (by omega) (fun x _ => rfl) (fun j hj => absurd hj (Nat.not_lt_zero _)) (by omega)
