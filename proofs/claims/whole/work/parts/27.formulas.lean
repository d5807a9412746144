variable {G : am_G} {I : Nat → Nat → Int32} {J : Nat → Nat → Int64}
theorem bv_neg (x : BitVec 32) : x.toInt < 0 ↔ x.msb = true := by rw [BitVec.toInt_eq_msb_cond]; have := x.isLt; split <;> simp_all <;> omega
theorem xor_sign {a b : Int} (ha : rg a) (hb : rg b) (h1 : 1 ≤ b) : (0 : Int32) ≤ iZ a ^^^ iZ b ↔ 0 ≤ a := by
  have e : (iZ a ^^^ iZ b).toInt < 0 ↔ (iZ a).toInt < 0 := by
    have h2 : ¬ (iZ b).toInt < 0 := by rw [iZ_toInt hb]; omega
    have f1 := bv_neg (iZ a).toBitVec
    have f2 := bv_neg (iZ b).toBitVec
    have f3 := bv_neg (iZ a ^^^ iZ b).toBitVec
    have f4 : (iZ a ^^^ iZ b).toBitVec.msb = ((iZ a).toBitVec.msb ^^ (iZ b).toBitVec.msb) := by rw [Int32.toBitVec_xor, BitVec.msb_xor]
    have f5 : (iZ b).toBitVec.msb = false := by
      cases hq : (iZ b).toBitVec.msb
      · rfl
      · exact absurd (f2.mpr hq) h2
    rw [f5, Bool.xor_false] at f4
    rw [f4] at f3; exact f3.trans f1.symm
  rw [iZ_toInt ha] at e
  rw [Int32.le_iff_toInt_le]
  have e0 : (0 : Int32).toInt = 0 := by decide
  omega
theorem tdiv_floor {a b : Int} (h1 : 1 ≤ b) : a / b = if 0 ≤ a ∨ a.tdiv b * b = a then a.tdiv b else a.tdiv b - 1 := by
  have e := @Int.tdiv_eq_ediv a b
  rw [Int.sign_eq_one_of_pos (by omega)] at e
  by_cases h : 0 ≤ a ∨ b ∣ a
  · rw [if_pos h, Int.add_zero] at e
    rw [if_pos, e]
    rcases h with h | h
    · exact Or.inl h
    · rw [e]; exact Or.inr (Int.ediv_mul_cancel h)
  · rw [if_neg h] at e
    rw [if_neg, e]
    · omega
    · rintro (h1 | h1)
      · exact h (Or.inl h1)
      · exact h (Or.inr ⟨a.tdiv b, by rw [Int.mul_comm]; exact h1.symm⟩)
set_option maxRecDepth 4000 in
theorem sp_floorDiv {a b : Int} (ha : -1000000 ≤ a ∧ a ≤ 1000000) (hb : 1 ≤ b ∧ b ≤ 1000000) : am_S G mJ9_floorDiv_7cf53 1 0 0 [.int (iZ a), .int (iZ b)] (215, kK, kR, I, J) (am_fi (iZ (a / b)) (215, kK, kR, I, J)) := by
  have hq : -1000000 ≤ a.tdiv b ∧ a.tdiv b ≤ 1000000 := by
    have := Int.natAbs_tdiv_le_natAbs a b
    omega
  have hq2 : -1000000 ≤ a.tdiv b * b ∧ a.tdiv b * b ≤ 1000000 := by
    have e4 : (a.tdiv b * b).natAbs ≤ a.natAbs := by rw [Int.natAbs_mul, Int.natAbs_tdiv]; exact Nat.div_mul_le_self _ _
    omega
  refine am_spec (by decide +kernel) (Nat.le_of_ble_eq_true rfl) (L := [some (.int (iZ a)), some (.int (iZ b)), none]) rfl (fun X C T => ?_)
  refine am_iload_n (q := 1) C dJ9_floorDiv_7cf53_0 rfl rfl ?_
  refine am_iload_n (q := 2) C dJ9_floorDiv_7cf53_1 rfl rfl ?_
  refine am_idivZ (q := 3) C dJ9_floorDiv_7cf53_2 rfl ⟨by omega, by omega⟩ ⟨by omega, by omega⟩ (by omega) (by omega) ?_
  refine am_istore_n (q := 4) (L' := [some (.int (iZ a)), some (.int (iZ b)), some (.int (iZ (a.tdiv b)))]) C dJ9_floorDiv_7cf53_3 rfl (by decide) rfl rfl ?_
  refine am_iload_n (q := 5) C dJ9_floorDiv_7cf53_4 rfl rfl ?_
  refine am_iload_n (q := 6) C dJ9_floorDiv_7cf53_5 rfl rfl ?_
  refine am_ixor (q := 7) C dJ9_floorDiv_7cf53_6 rfl ?_
  refine am_if_ge (q := 10) (tgt := 21) C dJ9_floorDiv_7cf53_7 (by decide) rfl (fun c1 => ?_) (fun c1 => ?_)
  · have c1 := (xor_sign ⟨by omega, by omega⟩ ⟨by omega, by omega⟩ hb.1).mp c1
    refine am_iload_n (q := 22) C dJ9_floorDiv_7cf53_21 rfl rfl ?_
    refine am_iret C T dJ9_floorDiv_7cf53_22 rfl (Nat.le_refl _) (Nat.le_refl _) ⟨_, rfl, ?_⟩
    refine ⟨congrArg iZ ?_, rfl⟩
    rw [tdiv_floor hb.1]
    first | (rw [if_pos (by omega)]) | (rw [if_neg (by omega)])
  · have c1 : ¬ 0 ≤ a := fun z => c1 ((xor_sign ⟨by omega, by omega⟩ ⟨by omega, by omega⟩ hb.1).mpr z)
    refine am_iload_n (q := 11) C dJ9_floorDiv_7cf53_10 rfl rfl ?_
    refine am_iload_n (q := 12) C dJ9_floorDiv_7cf53_11 rfl rfl ?_
    refine am_imulZ (q := 13) C dJ9_floorDiv_7cf53_12 rfl ?_
    refine am_iload_n (q := 14) C dJ9_floorDiv_7cf53_13 rfl rfl ?_
    refine am_icmpZ_eq (q := 17) (tgt := 21) C dJ9_floorDiv_7cf53_14 (by decide) rfl ⟨by omega, by omega⟩ ⟨by omega, by omega⟩ (fun c1 => ?_) (fun c1 => ?_)
    · refine am_iload_n (q := 22) C dJ9_floorDiv_7cf53_21 rfl rfl ?_
      refine am_iret C T dJ9_floorDiv_7cf53_22 rfl (Nat.le_refl _) (Nat.le_refl _) ⟨_, rfl, ?_⟩
      refine ⟨congrArg iZ ?_, rfl⟩
      rw [tdiv_floor hb.1]
      first | (rw [if_pos (by omega)]) | (rw [if_neg (by omega)])
    · refine am_iload_n (q := 18) C dJ9_floorDiv_7cf53_17 rfl rfl ?_
      refine am_iconst (q := 19) (v := iZ 1) C dJ9_floorDiv_7cf53_18 rfl rfl ?_
      refine am_isubZ (q := 20) C dJ9_floorDiv_7cf53_19 rfl ?_
      refine am_iret C T dJ9_floorDiv_7cf53_20 rfl (Nat.le_refl _) (Nat.le_refl _) ⟨_, rfl, ?_⟩
      refine ⟨congrArg iZ ?_, rfl⟩
      rw [tdiv_floor hb.1]
      first | (rw [if_pos (by omega)]) | (rw [if_neg (by omega)])
