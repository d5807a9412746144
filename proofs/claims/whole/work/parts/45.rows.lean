variable {G : am_G} {I : Nat → Nat → Int32} {J : Nat → Nat → Int64}
set_option maxRecDepth 4000 in
theorem sp_X10_sheetAt {p : Int} (hp : rg p) : am_S G mX10_sheetAt 1 0 0 [.ref 0, .int (iZ p)] (215, kK, kR, I, J) (am_fr (if 0 ≤ p ∧ p < 4 then some (183 + 2 * p.toNat) else none) (215, kK, kR, I, J)) := by
  refine am_spec (plainFor_of_name (by decide +kernel)) (Nat.le_of_ble_eq_true rfl) (L := [some (.ref 0), some (.int (iZ p))]) rfl (fun X C T => ?_)
  refine am_iload_n (q := 1) C dX10_sheetAt_0 rfl rfl ?_
  refine am_ifZ_lt (q := 4) (tgt := 18) C dX10_sheetAt_1 (by decide) rfl hp (fun c1 => ?_) (fun c1 => ?_)
  · refine am_null (q := 19) C dX10_sheetAt_18 rfl ?_
    refine am_aret (x := none) C T dX10_sheetAt_19 rfl (Or.inl ⟨_, rfl⟩) (Nat.le_refl _) (Nat.le_refl _) ⟨_, rfl, ?_⟩
    refine ⟨?_, rfl⟩
    first | (rw [if_pos (by omega)]) | (rw [if_neg (by omega)])
  · refine am_iload_n (q := 5) C dX10_sheetAt_4 rfl rfl ?_
    refine am_iconst (q := 6) (v := iZ 4) C dX10_sheetAt_5 rfl rfl ?_
    refine am_icmpZ_ge (q := 9) (tgt := 18) C dX10_sheetAt_6 (by decide) rfl hp ⟨by omega, by omega⟩ (fun c2 => ?_) (fun c2 => ?_)
    · refine am_null (q := 19) C dX10_sheetAt_18 rfl ?_
      refine am_aret (x := none) C T dX10_sheetAt_19 rfl (Or.inl ⟨_, rfl⟩) (Nat.le_refl _) (Nat.le_refl _) ⟨_, rfl, ?_⟩
      refine ⟨?_, rfl⟩
      first | (rw [if_pos (by omega)]) | (rw [if_neg (by omega)])
    · refine am_aload_n (q := 10) C dX10_sheetAt_9 rfl rfl ?_
      refine am_getR (q := 13) C fb_X10_79 dX10_sheetAt_10 rfl rfl kk_0 (show 0 < 215 by decide) kr_0_10 ?_
      refine am_iload_n (q := 14) C dX10_sheetAt_13 rfl rfl ?_
      refine am_saloadZ (q := 15) p.toNat C dX10_sheetAt_14 rfl kk_182 (show 182 < 215 by decide) (by omega) (by omega) (by decide) ?_
      rw [(isS_c p.toNat (by omega)).2.2.2]
      show am_A _ _ _ _ _ _ (.ref (183 + 2 * p.toNat) :: _) _ _ _
      refine am_goto (q := 19) C dX10_sheetAt_15 (by decide) ?_
      refine am_aret (x := some (183 + 2 * p.toNat)) C T dX10_sheetAt_19 rfl (Or.inl ⟨_, rfl⟩) (Nat.le_refl _) (Nat.le_refl _) ⟨_, rfl, ?_⟩
      refine ⟨?_, rfl⟩
      first | (rw [if_pos (by omega)]) | (rw [if_neg (by omega)])
def refT (s w : Int) : Int := if w < 1 ∨ 10 < w then -1 else if s = -1 then -11 else if s = 2 then -13 else 0
set_option maxRecDepth 4000 in
theorem sp_X10_tableRefusal {i : Nat} (hi : i < 4) {s : Int} {n : Nat} {f : Nat → Int64} (hA : atS i I J s n f) {w : Int} (hw : rg w) : am_S G mX10_tableRefusal 1 0 0 [.ref (183 + 2 * i), .int (iZ w)] (215, kK, kR, I, J) (am_fi (iZ (refT s w)) (215, kK, kR, I, J)) := by
  obtain ⟨a1, a2, a3, a4, a5, a6⟩ := hA
  refine am_spec (plainFor_of_name (by decide +kernel)) (Nat.le_of_ble_eq_true rfl) (L := [some (.ref (183 + 2 * i)), some (.int (iZ w))]) rfl (fun X C T => ?_)
  refine am_aload_n (q := 1) C dX10_tableRefusal_0 rfl rfl ?_
  refine am_ifnull (q := 4) C dX10_tableRefusal_1 rfl ?_
  refine am_iload_n (q := 5) C dX10_tableRefusal_4 rfl rfl ?_
  refine am_iconst (q := 6) (v := iZ 1) C dX10_tableRefusal_5 rfl rfl ?_
  refine am_icmpZ_lt (q := 9) (tgt := 15) C dX10_tableRefusal_6 (by decide) rfl hw ⟨by omega, by omega⟩ (fun c1 => ?_) (fun c1 => ?_)
  · refine am_iconst (q := 16) (v := iZ (-1)) C dX10_tableRefusal_15 rfl rfl ?_
    refine am_iret C T dX10_tableRefusal_16 rfl (Nat.le_refl _) (Nat.le_refl _) ⟨_, rfl, ?_⟩
    refine ⟨congrArg iZ ?_, rfl⟩
    unfold refT
    first | (rw [if_pos (by omega)]; done) | (rw [if_neg (by omega), if_pos (by omega)]; done) | (rw [if_neg (by omega), if_neg (by omega), if_pos (by omega)]; done) | (rw [if_neg (by omega), if_neg (by omega), if_neg (by omega)]; done)
  · refine am_iload_n (q := 10) C dX10_tableRefusal_9 rfl rfl ?_
    refine am_bipush (q := 12) (v := iZ 10) C dX10_tableRefusal_10 rfl rfl ?_
    refine am_icmpZ_le (q := 15) (tgt := 17) C dX10_tableRefusal_12 (by decide) rfl hw ⟨by omega, by omega⟩ (fun c2 => ?_) (fun c2 => ?_)
    · refine am_aload_n (q := 18) C dX10_tableRefusal_17 rfl rfl ?_
      refine am_getIe (q := 21) (v := (iZ s)) C fb_X10_265 dX10_tableRefusal_18 rfl rfl (isS_c i hi).1 (show 183 + 2 * i < 215 by omega) a1 ?_
      refine am_iconst (q := 22) (v := iZ (-1)) C dX10_tableRefusal_21 rfl rfl ?_
      refine am_icmpZ_ne (q := 25) (tgt := 28) C dX10_tableRefusal_22 (by decide) rfl ⟨by omega, by omega⟩ ⟨by omega, by omega⟩ (fun c3 => ?_) (fun c3 => ?_)
      · refine am_aload_n (q := 29) C dX10_tableRefusal_28 rfl rfl ?_
        refine am_getIe (q := 32) (v := (iZ s)) C fb_X10_265 dX10_tableRefusal_29 rfl rfl (isS_c i hi).1 (show 183 + 2 * i < 215 by omega) a1 ?_
        refine am_iconst (q := 33) (v := iZ 2) C dX10_tableRefusal_32 rfl rfl ?_
        refine am_icmpZ_ne (q := 36) (tgt := 41) C dX10_tableRefusal_33 (by decide) rfl ⟨by omega, by omega⟩ ⟨by omega, by omega⟩ (fun c4 => ?_) (fun c4 => ?_)
        · refine am_iconst (q := 42) (v := iZ 0) C dX10_tableRefusal_41 rfl rfl ?_
          refine am_iret C T dX10_tableRefusal_42 rfl (Nat.le_refl _) (Nat.le_refl _) ⟨_, rfl, ?_⟩
          refine ⟨congrArg iZ ?_, rfl⟩
          unfold refT
          first | (rw [if_pos (by omega)]; done) | (rw [if_neg (by omega), if_pos (by omega)]; done) | (rw [if_neg (by omega), if_neg (by omega), if_pos (by omega)]; done) | (rw [if_neg (by omega), if_neg (by omega), if_neg (by omega)]; done)
        · refine am_bipush (q := 38) (v := iZ (-13)) C dX10_tableRefusal_36 rfl rfl ?_
          refine am_goto (q := 42) C dX10_tableRefusal_38 (by decide) ?_
          refine am_iret C T dX10_tableRefusal_42 rfl (Nat.le_refl _) (Nat.le_refl _) ⟨_, rfl, ?_⟩
          refine ⟨congrArg iZ ?_, rfl⟩
          unfold refT
          first | (rw [if_pos (by omega)]; done) | (rw [if_neg (by omega), if_pos (by omega)]; done) | (rw [if_neg (by omega), if_neg (by omega), if_pos (by omega)]; done) | (rw [if_neg (by omega), if_neg (by omega), if_neg (by omega)]; done)
      · refine am_bipush (q := 27) (v := iZ (-11)) C dX10_tableRefusal_25 rfl rfl ?_
        refine am_iret C T dX10_tableRefusal_27 rfl (Nat.le_refl _) (Nat.le_refl _) ⟨_, rfl, ?_⟩
        refine ⟨congrArg iZ ?_, rfl⟩
        unfold refT
        first | (rw [if_pos (by omega)]; done) | (rw [if_neg (by omega), if_pos (by omega)]; done) | (rw [if_neg (by omega), if_neg (by omega), if_pos (by omega)]; done) | (rw [if_neg (by omega), if_neg (by omega), if_neg (by omega)]; done)
    · refine am_iconst (q := 16) (v := iZ (-1)) C dX10_tableRefusal_15 rfl rfl ?_
      refine am_iret C T dX10_tableRefusal_16 rfl (Nat.le_refl _) (Nat.le_refl _) ⟨_, rfl, ?_⟩
      refine ⟨congrArg iZ ?_, rfl⟩
      unfold refT
      first | (rw [if_pos (by omega)]; done) | (rw [if_neg (by omega), if_pos (by omega)]; done) | (rw [if_neg (by omega), if_neg (by omega), if_pos (by omega)]; done) | (rw [if_neg (by omega), if_neg (by omega), if_neg (by omega)]; done)
set_option maxRecDepth 4000 in
theorem sp_X10_tableRefusalN {w : Int} : am_S G mX10_tableRefusal 1 0 0 [.null, .int (iZ w)] (215, kK, kR, I, J) (am_fi (iZ (-1)) (215, kK, kR, I, J)) := by
  refine am_spec (plainFor_of_name (by decide +kernel)) (Nat.le_of_ble_eq_true rfl) (L := [some (.null), some (.int (iZ w))]) rfl (fun X C T => ?_)
  refine am_aload_nN (q := 1) C dX10_tableRefusal_0 rfl rfl ?_
  refine am_ifnullN (q := 15) C dX10_tableRefusal_1 (by decide) ?_
  refine am_iconst (q := 16) (v := iZ (-1)) C dX10_tableRefusal_15 rfl rfl ?_
  refine am_iret C T dX10_tableRefusal_16 rfl (Nat.le_refl _) (Nat.le_refl _) ⟨_, rfl, ?_⟩
  exact ⟨rfl, rfl⟩
