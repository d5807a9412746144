variable {G : am_G} {I : Nat → Nat → Int32} {J : Nat → Nat → Int64}
theorem lays_eq {Rf R1 R2 : Nat → Nat → Option Nat} {I1 I2 : Nat → Nat → Int32} {J1 J2 : Nat → Nat → Int64} (l1 : lay 0 191 Rf I J R1 I1 J1) (l2 : lay 191 215 R1 I1 J1 R2 I2 J2) : R2 = kR ∧ I2 = i0 ∧ J2 = j0 := by
  have h : ∀ x, R2 x = kR x ∧ I2 x = i0 x ∧ J2 x = j0 x := fun x => by
    by_cases e1 : x < 191
    · have a := l2.1 x e1
      have b := l1.2.1 x (by omega) e1
      exact ⟨a.1.trans b.1, a.2.1.trans b.2.1, a.2.2.trans b.2.2⟩
    · by_cases e2 : x < 215
      · exact l2.2.1 x (by omega) e2
      · have a := l2.2.2 x (by omega)
        have hl : rl.getD x [] = [] := by
          have hn : rl.length = 215 := by decide +kernel
          rw [List.getD_eq_getElem?_getD, List.getElem?_eq_none (by omega)]
          rfl
        have hi : i0L x = [] := by
          unfold i0L
          rw [if_neg (by omega), if_neg (by omega), if_neg (by omega), if_neg (by omega), if_neg (by omega), if_neg (by omega), if_neg (by omega)]
        exact ⟨a.1.trans (kR_z hl).symm, a.2.1.trans (i0_z hi).symm, a.2.2.trans (j0_z (by omega)).symm⟩
  exact ⟨funext fun x => (h x).1, funext fun x => (h x).2.1, funext fun x => (h x).2.2⟩
def pt0 : PT := (0, fun _ => 0, fun _ => 0, fun _ => 0, fun _ => 0)
def sg0 : SG := (pt0, (0, fun _ => pt0), ((pt0, false, iZ 1), iZ 1, (0, fun _ => 0), (fun _ => -1, fun _ => 0, fun _ _ => 0)))
theorem j0_0 {h : Nat} (hh : h ≠ 165) (k : Nat) : j0 h k = 0 := congrFun (j0_z hh) k
theorem okP_0 : okP pt0 := ⟨by decide, fun p hp => absurd hp (Nat.not_lt_zero _)⟩
theorem sh_0 : ∀ i, i < 4 → i0 (183 + 2 * i) 1 = iZ (-1) ∧ i0 (183 + 2 * i) 2 = iZ 0 := by decide +kernel
theorem so_0 : ∀ i, i < 4 → i0 212 i = iZ (-1) ∧ i0 213 i = iZ 0 := by decide +kernel
theorem fan_0 : fanAt i0 pt0 := ⟨⟨by decide +kernel, by decide +kernel, fun k hk => absurd hk (by decide +revert +kernel)⟩, by decide +kernel, fun p hp => absurd hp (Nat.not_lt_zero _), by decide +kernel⟩
theorem lv_0 : lvR i0 j0 (fun _ => 0) (fun _ => 0) (fun _ => false) := fun k hk => ⟨j0_0 (by decide) k, Nat.two_pow_pos 61, j0_0 (by decide) k, Nat.two_pow_pos 61, by
  rcases (show k = 0 ∨ k = 1 ∨ k = 2 ∨ k = 3 ∨ k = 4 by omega) with e | e | e | e | e <;> subst e <;> decide +kernel⟩
theorem atC_s0 : atC i0 j0 sg0 := by
  refine ⟨⟨by decide +kernel, fun p hp => absurd hp (Nat.not_lt_zero _)⟩, okP_0, ⟨fan_0, ⟨-1, -1, ⟨by decide +kernel, by decide +kernel, by omega, by omega, by omega, by omega⟩, fun x y hx hy => by omega⟩, ⟨-1, -1, ⟨by decide +kernel, by decide +kernel, by omega, by omega, by omega, by omega⟩, fun l x y h1 h2 hx hy => by omega⟩⟩, ⟨0, by decide +kernel, by decide, by decide +kernel, Nat.zero_le _, fun i hi => absurd hi (Nat.not_lt_zero _)⟩, ?_⟩
  refine ⟨by decide +kernel, by decide +kernel, by decide +kernel, fun e => absurd e (by decide), ⟨by decide +kernel, Nat.zero_le _, fun k hk => absurd hk (Nat.not_lt_zero _)⟩, ⟨(0, fun _ => 0, fun _ => 0, fun _ => false, 0, 0), by decide +kernel, by decide +kernel, by decide +kernel, Nat.zero_le _, Nat.zero_le _, Nat.zero_le _, lv_0⟩, fun i hi => ⟨(sh_0 i hi).1, (sh_0 i hi).2, (show (-1 : Int) ≤ -1 by decide), (show (-1 : Int) ≤ 2 by decide), Nat.zero_le _, fun k hk => j0_0 (by omega) k⟩⟩
theorem atM_s0 : atM i0 j0 sg0 := by
  refine ⟨⟨by decide +kernel, fun p hp => absurd hp (Nat.not_lt_zero _)⟩, okP_0, ⟨by decide +kernel, Nat.zero_le _, fun i hi => absurd hi (Nat.not_lt_zero _), fun i hi => absurd hi (Nat.not_lt_zero _)⟩, by decide +kernel, by decide +kernel, fun e => absurd e (by decide), ⟨by decide +kernel, Nat.zero_le _, fun k hk => absurd hk (Nat.not_lt_zero _)⟩, fun i hi => ⟨(so_0 i hi).1, (so_0 i hi).2, (show (-1 : Int) ≤ -1 by decide), (show (-1 : Int) ≤ 2 by decide), Nat.zero_le _, fun k hk => j0_0 (by decide) _⟩⟩
theorem and_63 (x : Int32) : ∃ z : Int, (0 ≤ z ∧ z ≤ 63) ∧ x &&& iZ 63 = iZ z := by
  have h : ((x &&& iZ 63).toUInt32.toNat) ≤ 63 := by
    have e : (x &&& iZ 63).toUInt32 = x.toUInt32 &&& 63 := rfl
    rw [e, UInt32.toNat_and]
    exact Nat.and_le_right
  refine ⟨((x &&& iZ 63).toUInt32.toNat : Int), ⟨by omega, by omega⟩, ?_⟩
  apply Int32.toBitVec_inj.mp
  apply BitVec.eq_of_toNat_eq
  show (x &&& iZ 63).toUInt32.toNat = (BitVec.ofInt 32 _).toNat
  rw [BitVec.toNat_ofInt]
  omega
set_option maxRecDepth 4000 in
theorem law_lp {X : am_X} {R : Room} {c n Ls : Nat} {xs : Nat → Int32} (C : am_C G mL_law X) (hX : scAt G X Ls xs) (hL : Ls ≤ 3072) (hR1 : 400 ≤ R.frames) (hR2 : 64 * 400 ≤ R.locals) (hc : c + 0 ≤ R.cells) (hn : n + 0 ≤ R.slots) (fin : ∀ (L : List (Option Value)) (w : am_W), am_A G mL_law X R 1312 L [.int (iZ 1)] w c n) : ∀ (fuel i : Nat) (σ : SG) (I : Nat → Nat → Int32) (J : Nat → Nat → Int64), i ≤ 4000 → atC I J σ → atM I J σ → Ls - i < fuel → am_A G mL_law X R 18 [some (.ref 1000021), some (.ref 0), some (.ref 191), some (.int (iZ (i : Int)))] [] (215, kK, kR, I, J) c n := by
  intro fuel
  induction fuel with
  | zero => intro i σ I J _ _ _ h; exact absurd h (Nat.not_lt_zero _)
  | succ fuel ih =>
    intro i σ I J hi hC hM hfu
    refine am_iload_n (q := 19) C dL_law_18 rfl rfl ?_
    refine am_aload_n (q := 20) C dL_law_19 rfl rfl ?_
    refine am_sln (q := 21) C hX dL_law_20 rfl ?_
    refine am_bipush (q := 23) (v := iZ 6) C dL_law_21 rfl rfl ?_
    refine am_isubZ (q := 24) C dL_law_23 rfl ?_
    refine am_icmpZ_gt (q := 27) (tgt := 1311) C dL_law_24 (by decide) rfl ⟨by omega, by omega⟩ ⟨by omega, by omega⟩ (fun c1 => ?_) (fun c1 => ?_)
    · refine am_iconst (q := 1312) (v := iZ 1) C dL_law_1311 rfl rfl ?_
      exact fin _ _
    · have h6 : i + 6 ≤ Ls := by omega
      have nx : ∀ (σ' : SG) (I' : Nat → Nat → Int32) (J' : Nat → Nat → Int64), atC I' J' σ' → atM I' J' σ' → am_A G mL_law X R 1305 [some (.ref 1000021), some (.ref 0), some (.ref 191), some (.int (iZ (i : Int)))] [] (215, kK, kR, I', J') c n := fun σ' I' J' h1 h2 => by
        refine am_iincZ (q := 1308) (b := ((i + 6 : Nat) : Int)) (L' := [some (.ref 1000021), some (.ref 0), some (.ref 191), some (.int (iZ ((i + 6 : Nat) : Int)))]) C dL_law_1305 rfl rfl (by omega) (by decide) rfl rfl ?_
        refine am_goto (q := 18) C dL_law_1308 (by decide) ?_
        exact ih (i + 6) σ' I' J' (by omega) h1 h2 (by omega)
      refine am_aload_n (q := 28) C dL_law_27 rfl rfl ?_
      refine am_iload_n (q := 29) C dL_law_28 rfl rfl ?_
      refine am_sld (q := 30) (k := i) C hX dL_law_29 rfl rfl (by omega) ?_
      refine am_bipush (q := 32) (v := iZ 63) C dL_law_30 rfl rfl ?_
      refine am_iand (q := 33) C dL_law_32 rfl ?_
      obtain ⟨z, hz, ez⟩ := and_63 (iZ (xs i).toInt)
      rw [ez]
      have rz : rg z := ⟨by omega, by omega⟩
      rcases (show (z = 0 ∨ z = 1 ∨ z = 2 ∨ z = 3 ∨ z = 4 ∨ z = 5 ∨ z = 6 ∨ z = 7 ∨ z = 8 ∨ z = 9 ∨ z = 10 ∨ z = 11 ∨ z = 12 ∨ z = 13 ∨ z = 14 ∨ z = 15 ∨ z = 16 ∨ z = 17 ∨ z = 18 ∨ z = 19 ∨ z = 20 ∨ z = 21 ∨ z = 22 ∨ z = 23 ∨ z = 24 ∨ z = 25 ∨ z = 26 ∨ z = 27 ∨ z = 28 ∨ z = 29 ∨ z = 30 ∨ z = 31 ∨ z = 32 ∨ 33 ≤ z) by omega) with e | e | e | e | e | e | e | e | e | e | e | e | e | e | e | e | e | e | e | e | e | e | e | e | e | e | e | e | e | e | e | e | e | e
      · refine am_tableIn (q := 180) (off := 147) C dL_law_33 (by rw [iZ_toInt rz]; omega) (by rw [iZ_toInt rz]; omega) (by rw [iZ_toInt rz, e]; rfl) (by decide) ?_
        exact cs_0 C hX hL h6 hR1 hR2 hc hn hC hM nx
      · refine am_tableIn (q := 213) (off := 180) C dL_law_33 (by rw [iZ_toInt rz]; omega) (by rw [iZ_toInt rz]; omega) (by rw [iZ_toInt rz, e]; rfl) (by decide) ?_
        exact cs_1 C hX hL h6 hR1 hR2 hc hn hC hM nx
      · refine am_tableIn (q := 246) (off := 213) C dL_law_33 (by rw [iZ_toInt rz]; omega) (by rw [iZ_toInt rz]; omega) (by rw [iZ_toInt rz, e]; rfl) (by decide) ?_
        exact cs_2 C hX hL h6 hR1 hR2 hc hn hC hM nx
      · refine am_tableIn (q := 259) (off := 226) C dL_law_33 (by rw [iZ_toInt rz]; omega) (by rw [iZ_toInt rz]; omega) (by rw [iZ_toInt rz, e]; rfl) (by decide) ?_
        exact cs_3 C hX hL h6 hR1 hR2 hc hn hC hM nx
      · refine am_tableIn (q := 292) (off := 259) C dL_law_33 (by rw [iZ_toInt rz]; omega) (by rw [iZ_toInt rz]; omega) (by rw [iZ_toInt rz, e]; rfl) (by decide) ?_
        exact cs_4 C hX hL h6 hR1 hR2 hc hn hC hM nx
      · refine am_tableIn (q := 325) (off := 292) C dL_law_33 (by rw [iZ_toInt rz]; omega) (by rw [iZ_toInt rz]; omega) (by rw [iZ_toInt rz, e]; rfl) (by decide) ?_
        exact cs_5 C hX hL h6 hR1 hR2 hc hn hC hM nx
      · refine am_tableIn (q := 388) (off := 355) C dL_law_33 (by rw [iZ_toInt rz]; omega) (by rw [iZ_toInt rz]; omega) (by rw [iZ_toInt rz, e]; rfl) (by decide) ?_
        exact cs_6 C hX hL h6 hR1 hR2 hc hn hC hM nx
      · refine am_tableIn (q := 411) (off := 378) C dL_law_33 (by rw [iZ_toInt rz]; omega) (by rw [iZ_toInt rz]; omega) (by rw [iZ_toInt rz, e]; rfl) (by decide) ?_
        exact cs_7 C hX hL h6 hR1 hR2 hc hn hC hM nx
      · refine am_tableIn (q := 444) (off := 411) C dL_law_33 (by rw [iZ_toInt rz]; omega) (by rw [iZ_toInt rz]; omega) (by rw [iZ_toInt rz, e]; rfl) (by decide) ?_
        exact cs_8 C hX hL h6 hR1 hR2 hc hn hC hM nx
      · refine am_tableIn (q := 457) (off := 424) C dL_law_33 (by rw [iZ_toInt rz]; omega) (by rw [iZ_toInt rz]; omega) (by rw [iZ_toInt rz, e]; rfl) (by decide) ?_
        exact cs_9 C hX hL h6 hR1 hR2 hc hn hC hM nx
      · refine am_tableIn (q := 491) (off := 458) C dL_law_33 (by rw [iZ_toInt rz]; omega) (by rw [iZ_toInt rz]; omega) (by rw [iZ_toInt rz, e]; rfl) (by decide) ?_
        exact cs_10 C hX hL h6 hR1 hR2 hc hn hC hM nx
      · refine am_tableIn (q := 525) (off := 492) C dL_law_33 (by rw [iZ_toInt rz]; omega) (by rw [iZ_toInt rz]; omega) (by rw [iZ_toInt rz, e]; rfl) (by decide) ?_
        exact cs_11 C hX hL h6 hR1 hR2 hc hn hC hM nx
      · refine am_tableIn (q := 559) (off := 526) C dL_law_33 (by rw [iZ_toInt rz]; omega) (by rw [iZ_toInt rz]; omega) (by rw [iZ_toInt rz, e]; rfl) (by decide) ?_
        exact cs_12 C hX hL h6 hR1 hR2 hc hn hC hM nx
      · refine am_tableIn (q := 612) (off := 579) C dL_law_33 (by rw [iZ_toInt rz]; omega) (by rw [iZ_toInt rz]; omega) (by rw [iZ_toInt rz, e]; rfl) (by decide) ?_
        exact cs_13 C hX hL h6 hR1 hR2 hc hn hC hM nx
      · refine am_tableIn (q := 656) (off := 623) C dL_law_33 (by rw [iZ_toInt rz]; omega) (by rw [iZ_toInt rz]; omega) (by rw [iZ_toInt rz, e]; rfl) (by decide) ?_
        exact cs_14 C hX hL h6 hR1 hR2 hc hn hC hM nx
      · refine am_tableIn (q := 689) (off := 656) C dL_law_33 (by rw [iZ_toInt rz]; omega) (by rw [iZ_toInt rz]; omega) (by rw [iZ_toInt rz, e]; rfl) (by decide) ?_
        exact cs_15 C hX hL h6 hR1 hR2 hc hn hC hM nx
      · refine am_tableIn (q := 702) (off := 669) C dL_law_33 (by rw [iZ_toInt rz]; omega) (by rw [iZ_toInt rz]; omega) (by rw [iZ_toInt rz, e]; rfl) (by decide) ?_
        exact cs_16 C hX hL h6 hR1 hR2 hc hn hC hM nx
      · refine am_tableIn (q := 715) (off := 682) C dL_law_33 (by rw [iZ_toInt rz]; omega) (by rw [iZ_toInt rz]; omega) (by rw [iZ_toInt rz, e]; rfl) (by decide) ?_
        exact cs_17 C hX hL h6 hR1 hR2 hc hn hC hM nx
      · refine am_tableIn (q := 748) (off := 715) C dL_law_33 (by rw [iZ_toInt rz]; omega) (by rw [iZ_toInt rz]; omega) (by rw [iZ_toInt rz, e]; rfl) (by decide) ?_
        exact cs_18 C hX hL h6 hR1 hR2 hc hn hC hM nx
      · refine am_tableIn (q := 801) (off := 768) C dL_law_33 (by rw [iZ_toInt rz]; omega) (by rw [iZ_toInt rz]; omega) (by rw [iZ_toInt rz, e]; rfl) (by decide) ?_
        exact cs_19 C hX hL h6 hR1 hR2 hc hn hC hM nx
      · refine am_tableIn (q := 865) (off := 832) C dL_law_33 (by rw [iZ_toInt rz]; omega) (by rw [iZ_toInt rz]; omega) (by rw [iZ_toInt rz, e]; rfl) (by decide) ?_
        exact cs_20 C hX hL h6 hR1 hR2 hc hn hC hM nx
      · refine am_tableIn (q := 909) (off := 876) C dL_law_33 (by rw [iZ_toInt rz]; omega) (by rw [iZ_toInt rz]; omega) (by rw [iZ_toInt rz, e]; rfl) (by decide) ?_
        exact cs_21 C hX hL h6 hR1 hR2 hc hn hC hM nx
      · refine am_tableIn (q := 942) (off := 909) C dL_law_33 (by rw [iZ_toInt rz]; omega) (by rw [iZ_toInt rz]; omega) (by rw [iZ_toInt rz, e]; rfl) (by decide) ?_
        exact cs_22 C hX hL h6 hR1 hR2 hc hn hC hM nx
      · refine am_tableIn (q := 985) (off := 952) C dL_law_33 (by rw [iZ_toInt rz]; omega) (by rw [iZ_toInt rz]; omega) (by rw [iZ_toInt rz, e]; rfl) (by decide) ?_
        exact cs_23 C hX hL h6 hR1 hR2 hc hn hC hM nx
      · refine am_tableIn (q := 1058) (off := 1025) C dL_law_33 (by rw [iZ_toInt rz]; omega) (by rw [iZ_toInt rz]; omega) (by rw [iZ_toInt rz, e]; rfl) (by decide) ?_
        exact cs_24 C hX hL h6 hR1 hR2 hc hn hC hM nx
      · refine am_tableIn (q := 1101) (off := 1068) C dL_law_33 (by rw [iZ_toInt rz]; omega) (by rw [iZ_toInt rz]; omega) (by rw [iZ_toInt rz, e]; rfl) (by decide) ?_
        exact cs_25 C hX hL h6 hR1 hR2 hc hn hC hM nx
      · refine am_tableIn (q := 1134) (off := 1101) C dL_law_33 (by rw [iZ_toInt rz]; omega) (by rw [iZ_toInt rz]; omega) (by rw [iZ_toInt rz, e]; rfl) (by decide) ?_
        exact cs_26 C hX hL h6 hR1 hR2 hc hn hC hM nx
      · refine am_tableIn (q := 1167) (off := 1134) C dL_law_33 (by rw [iZ_toInt rz]; omega) (by rw [iZ_toInt rz]; omega) (by rw [iZ_toInt rz, e]; rfl) (by decide) ?_
        exact cs_27 C hX hL h6 hR1 hR2 hc hn hC hM nx
      · refine am_tableIn (q := 1210) (off := 1177) C dL_law_33 (by rw [iZ_toInt rz]; omega) (by rw [iZ_toInt rz]; omega) (by rw [iZ_toInt rz, e]; rfl) (by decide) ?_
        exact cs_28 C hX hL h6 hR1 hR2 hc hn hC hM nx
      · refine am_tableIn (q := 1233) (off := 1200) C dL_law_33 (by rw [iZ_toInt rz]; omega) (by rw [iZ_toInt rz]; omega) (by rw [iZ_toInt rz, e]; rfl) (by decide) ?_
        exact cs_29 C hX hL h6 hR1 hR2 hc hn hC hM nx
      · refine am_tableIn (q := 1256) (off := 1223) C dL_law_33 (by rw [iZ_toInt rz]; omega) (by rw [iZ_toInt rz]; omega) (by rw [iZ_toInt rz, e]; rfl) (by decide) ?_
        exact cs_30 C hX hL h6 hR1 hR2 hc hn hC hM nx
      · refine am_tableIn (q := 1279) (off := 1246) C dL_law_33 (by rw [iZ_toInt rz]; omega) (by rw [iZ_toInt rz]; omega) (by rw [iZ_toInt rz, e]; rfl) (by decide) ?_
        exact cs_31 C hX hL h6 hR1 hR2 hc hn hC hM nx
      · refine am_tableIn (q := 1292) (off := 1259) C dL_law_33 (by rw [iZ_toInt rz]; omega) (by rw [iZ_toInt rz]; omega) (by rw [iZ_toInt rz, e]; rfl) (by decide) ?_
        exact cs_32 C hX hL h6 hR1 hR2 hc hn hC hM nx
      · refine am_tableOut (q := 1305) C dL_law_33 (by rw [iZ_toInt rz]; omega) (by decide) ?_
        exact nx σ I J hC hM
