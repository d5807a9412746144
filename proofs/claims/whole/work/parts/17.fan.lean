variable {G : am_G} {I : Nat → Nat → Int32} {J : Nat → Nat → Int64}
/-- rays as they lie in the fan: across and up, each at most 4 -/
def atF (I : Nat → Nat → Int32) (l : List (Nat × Nat)) : Prop := I 169 4 = iZ (l.length : Int) ∧ l.length ≤ 6 ∧ ∀ k, k < l.length → I 170 k = iZ ((l.getD k (0, 0)).1 : Int) ∧ I 171 k = iZ ((l.getD k (0, 0)).2 : Int) ∧ (l.getD k (0, 0)).1 ≤ 4 ∧ (l.getD k (0, 0)).2 ≤ 4
abbrev ra (l : List (Nat × Nat)) (k : Nat) : Nat := (l.getD k (0, 0)).1
abbrev rb (l : List (Nat × Nat)) (k : Nat) : Nat := (l.getD k (0, 0)).2
theorem pr_le {a b c d : Nat} (h : a ≤ c) (h2 : b ≤ d) : a * b ≤ c * d := Nat.mul_le_mul h h2
theorem pr44 {a b : Nat} (h : a ≤ 4) (h2 : b ≤ 4) : a * b ≤ 16 := Nat.mul_le_mul h h2
theorem prx {x : Int} {b : Nat} {c : Int} (h : -c ≤ x ∧ x ≤ c) (h2 : b ≤ 4) (hc : 0 ≤ c) : -(4 * c) ≤ x * b ∧ x * b ≤ 4 * c := by
  obtain ⟨k, rfl⟩ | ⟨k, rfl⟩ : (∃ k : Nat, x = k) ∨ ∃ k : Nat, x = -(k : Int) := by
    rcases Int.le_total 0 x with h | h
    · exact Or.inl ⟨x.toNat, by omega⟩
    · exact Or.inr ⟨(-x).toNat, by omega⟩
  · have := Nat.mul_le_mul_left k h2
    have e : ((k * b : Nat) : Int) = (k : Int) * (b : Int) := by simp
    omega
  · have := Nat.mul_le_mul_left k h2
    have e : ((k * b : Nat) : Int) = (k : Int) * (b : Int) := by simp
    rw [Int.neg_mul]
    omega
set_option maxRecDepth 4000 in
theorem sp_X1_turn (a b c d : Int) : am_S G mX1_turn 1 0 0 [.int (iZ a), .int (iZ b), .int (iZ c), .int (iZ d)] (215, kK, kR, I, J) (am_fi (iZ (a * d - b * c)) (215, kK, kR, I, J)) := by
  refine am_spec (plainFor_of_name (by decide +kernel)) (Nat.le_of_ble_eq_true rfl) (L := [some (.int (iZ a)), some (.int (iZ b)), some (.int (iZ c)), some (.int (iZ d))]) rfl (fun X C T => ?_)
  refine am_iload_n (q := 1) C dX1_turn_0 rfl rfl ?_
  refine am_iload_n (q := 2) C dX1_turn_1 rfl rfl ?_
  refine am_imulZ (q := 3) C dX1_turn_2 rfl ?_
  refine am_iload_n (q := 4) C dX1_turn_3 rfl rfl ?_
  refine am_iload_n (q := 5) C dX1_turn_4 rfl rfl ?_
  refine am_imulZ (q := 6) C dX1_turn_5 rfl ?_
  refine am_isubZ (q := 7) C dX1_turn_6 rfl ?_
  refine am_iret C T dX1_turn_7 rfl (Nat.le_refl _) (Nat.le_refl _) ⟨_, rfl, ?_⟩
  exact ⟨rfl, rfl⟩
set_option maxRecDepth 4000 in
theorem sp_X1_hasRay {l : List (Nat × Nat)} (hF : atF I l) {p : Int} (hp : rg p) : am_S G mX1_hasRay 1 0 0 [.ref 169, .int (iZ p)] (215, kK, kR, I, J) (am_fi (if 0 ≤ p ∧ p < l.length then 1 else 0) (215, kK, kR, I, J)) := by
  obtain ⟨f1, f2, f3⟩ := hF
  refine am_spec (plainFor_of_name (by decide +kernel)) (Nat.le_of_ble_eq_true rfl) (L := [some (.ref 169), some (.int (iZ p))]) rfl (fun X C T => ?_)
  refine am_iload_n (q := 1) C dX1_hasRay_0 rfl rfl ?_
  refine am_ifZ_lt (q := 4) (tgt := 22) C dX1_hasRay_1 (by decide) rfl hp (fun h1 => ?_) (fun h1 => ?_)
  · refine am_iconst (q := 23) (v := iZ 0) C dX1_hasRay_22 rfl rfl ?_
    refine am_zretB (b := false) C T dX1_hasRay_23 rfl (Nat.le_refl _) (Nat.le_refl _) rfl ⟨_, rfl, ?_⟩
    refine ⟨?_, rfl⟩
    first | (rw [if_pos (by omega)]; rfl) | (rw [if_neg (by omega)]; rfl)
  · refine am_iload_n (q := 5) C dX1_hasRay_4 rfl rfl ?_
    refine am_aload_n (q := 6) C dX1_hasRay_5 rfl rfl ?_
    refine am_getIe (q := 9) (v := (iZ (l.length : Int))) C fb_X1_24 dX1_hasRay_6 rfl rfl kk_169 (show 169 < 215 by decide) f1 ?_
    refine am_icmpZ_ge (q := 12) (tgt := 22) C dX1_hasRay_9 (by decide) rfl hp ⟨by omega, by omega⟩ (fun h2 => ?_) (fun h2 => ?_)
    · refine am_iconst (q := 23) (v := iZ 0) C dX1_hasRay_22 rfl rfl ?_
      refine am_zretB (b := false) C T dX1_hasRay_23 rfl (Nat.le_refl _) (Nat.le_refl _) rfl ⟨_, rfl, ?_⟩
      refine ⟨?_, rfl⟩
      first | (rw [if_pos (by omega)]; rfl) | (rw [if_neg (by omega)]; rfl)
    · refine am_iload_n (q := 13) C dX1_hasRay_12 rfl rfl ?_
      refine am_bipush (q := 15) (v := iZ 6) C dX1_hasRay_13 rfl rfl ?_
      refine am_icmpZ_ge (q := 18) (tgt := 22) C dX1_hasRay_15 (by decide) rfl hp ⟨by omega, by omega⟩ (fun h3 => ?_) (fun h3 => ?_)
      · refine am_iconst (q := 23) (v := iZ 0) C dX1_hasRay_22 rfl rfl ?_
        refine am_zretB (b := false) C T dX1_hasRay_23 rfl (Nat.le_refl _) (Nat.le_refl _) rfl ⟨_, rfl, ?_⟩
        refine ⟨?_, rfl⟩
        first | (rw [if_pos (by omega)]; rfl) | (rw [if_neg (by omega)]; rfl)
      · refine am_iconst (q := 19) (v := iZ 1) C dX1_hasRay_18 rfl rfl ?_
        refine am_goto (q := 23) C dX1_hasRay_19 (by decide) ?_
        refine am_zretB (b := true) C T dX1_hasRay_23 rfl (Nat.le_refl _) (Nat.le_refl _) rfl ⟨_, rfl, ?_⟩
        refine ⟨?_, rfl⟩
        first | (rw [if_pos (by omega)]; rfl) | (rw [if_neg (by omega)]; rfl)
set_option maxRecDepth 4000 in
theorem sp_X1_chambers {l : List (Nat × Nat)} (hF : atF I l) : am_S G mX1_chambers 2 0 0 [.ref 169] (215, kK, kR, I, J) (am_fi (iZ ((l.length - 1 : Nat) : Int)) (215, kK, kR, I, J)) := by
  obtain ⟨f1, f2, f3⟩ := hF
  refine am_spec (plainFor_of_name (by decide +kernel)) (Nat.le_of_ble_eq_true rfl) (L := [some (.ref 169)]) rfl (fun X C T => ?_)
  refine am_iconst (q := 1) (v := iZ 0) C dX1_chambers_0 rfl rfl ?_
  refine am_aload_n (q := 2) C dX1_chambers_1 rfl rfl ?_
  refine am_getIe (q := 5) (v := (iZ (l.length : Int))) C fb_X1_24 dX1_chambers_2 rfl rfl kk_169 (show 169 < 215 by decide) f1 ?_
  refine am_iconst (q := 6) (v := iZ 1) C dX1_chambers_5 rfl rfl ?_
  refine am_isubZ (q := 7) C dX1_chambers_6 rfl ?_
  refine am_callS (q := 10) (As := [.int (iZ 0), .int (iZ ((l.length : Int) - 1))]) (rest := []) C mb_J9_max_7cf53 st_J9_max_7cf53 ml_X1_31 dX1_chambers_7 rfl (sp_max ⟨by omega, by omega⟩ ⟨by omega, by omega⟩) rfl rfl ⟨by decide, by decide⟩ ⟨Nat.le_refl _, Nat.le_refl _⟩ (by decide) (am_rie ?_)
  refine am_iret C T dX1_chambers_10 rfl (Nat.le_refl _) (Nat.le_refl _) ⟨_, rfl, ?_⟩
  refine ⟨congrArg iZ (by omega), rfl⟩
set_option maxRecDepth 4000 in
theorem sp_X1_hasFormulas {l : List (Nat × Nat)} (hF : atF I l) {per : Int} (hper : I 169 5 = iZ per) (rper : rg per) : am_S G mX1_hasFormulas 3 0 0 [.ref 169] (215, kK, kR, I, J) (am_fi (if 2 ≤ l.length ∧ per ≤ 6 then 1 else 0) (215, kK, kR, I, J)) := by
  have f2 := hF.2.1
  refine am_spec (plainFor_of_name (by decide +kernel)) (Nat.le_of_ble_eq_true rfl) (L := [some (.ref 169)]) rfl (fun X C T => ?_)
  refine am_aload_n (q := 1) C dX1_hasFormulas_0 rfl rfl ?_
  refine am_callV (q := 4) (As := []) (rest := []) C mb_X1_chambers im_X1_chambers se_X1_chambers ml_X1_37 cb_1 kk_169 (show 169 < 215 by decide) dX1_hasFormulas_1 rfl (sp_X1_chambers hF) rfl rfl ⟨by decide, by decide⟩ ⟨Nat.le_refl _, Nat.le_refl _⟩ (by decide) (am_rie ?_)
  refine am_ifZ_le (q := 7) (tgt := 20) C dX1_hasFormulas_4 (by decide) rfl ⟨by omega, by omega⟩ (fun h1 => ?_) (fun h1 => ?_)
  · refine am_iconst (q := 21) (v := iZ 0) C dX1_hasFormulas_20 rfl rfl ?_
    refine am_zretB (b := false) C T dX1_hasFormulas_21 rfl (Nat.le_refl _) (Nat.le_refl _) rfl ⟨_, rfl, ?_⟩
    refine ⟨?_, rfl⟩
    first | (rw [if_pos (by omega)]; rfl) | (rw [if_neg (by omega)]; rfl)
  · refine am_aload_n (q := 8) C dX1_hasFormulas_7 rfl rfl ?_
    refine am_getIe (q := 11) (v := (iZ per)) C fb_X1_28 dX1_hasFormulas_8 rfl rfl kk_169 (show 169 < 215 by decide) hper ?_
    refine am_bipush (q := 13) (v := iZ 6) C dX1_hasFormulas_11 rfl rfl ?_
    refine am_icmpZ_gt (q := 16) (tgt := 20) C dX1_hasFormulas_13 (by decide) rfl rper ⟨by omega, by omega⟩ (fun h2 => ?_) (fun h2 => ?_)
    · refine am_iconst (q := 21) (v := iZ 0) C dX1_hasFormulas_20 rfl rfl ?_
      refine am_zretB (b := false) C T dX1_hasFormulas_21 rfl (Nat.le_refl _) (Nat.le_refl _) rfl ⟨_, rfl, ?_⟩
      refine ⟨?_, rfl⟩
      first | (rw [if_pos (by omega)]; rfl) | (rw [if_neg (by omega)]; rfl)
    · refine am_iconst (q := 17) (v := iZ 1) C dX1_hasFormulas_16 rfl rfl ?_
      refine am_goto (q := 21) C dX1_hasFormulas_17 (by decide) ?_
      refine am_zretB (b := true) C T dX1_hasFormulas_21 rfl (Nat.le_refl _) (Nat.le_refl _) rfl ⟨_, rfl, ?_⟩
      refine ⟨?_, rfl⟩
      first | (rw [if_pos (by omega)]; rfl) | (rw [if_neg (by omega)]; rfl)
set_option maxRecDepth 4000 in
theorem sp_X1_size {l : List (Nat × Nat)} (hF : atF I l) {c : Nat} (hc : c + 1 < l.length) : am_S G mX1_size 2 0 0 [.ref 169, .int (iZ (c : Int))] (215, kK, kR, I, J) (am_fi (iZ ((ra l c : Int) * (rb l (c + 1) : Int) - (rb l c : Int) * (ra l (c + 1) : Int))) (215, kK, kR, I, J)) := by
  have f1 := hF.1
  have f2 := hF.2.1
  have f3 := hF.2.2
  refine am_spec (plainFor_of_name (by decide +kernel)) (Nat.le_of_ble_eq_true rfl) (L := [some (.ref 169), some (.int (iZ (c : Int)))]) rfl (fun X C T => ?_)
  refine am_aload_n (q := 1) C dX1_size_0 rfl rfl ?_
  refine am_iload_n (q := 2) C dX1_size_1 rfl rfl ?_
  refine am_callV (q := 5) (As := [.int (iZ (c : Int))]) (rest := []) C mb_X1_hasRay im_X1_hasRay se_X1_hasRay ml_X1_65 cb_1 kk_169 (show 169 < 215 by decide) dX1_size_2 rfl (sp_X1_hasRay hF (p := (c : Int)) ⟨by omega, by omega⟩) rfl rfl ⟨by decide, by decide⟩ ⟨Nat.le_refl _, Nat.le_refl _⟩ (by decide) (am_rie ?_)
  refine am_ifB_eq (q := 8) (tgt := 18) C dX1_size_5 (by decide) rfl (fun h1 => ?_) (fun h1 => ?_)
  · exact absurd (show _ from by omega) h1
  · refine am_aload_n (q := 9) C dX1_size_8 rfl rfl ?_
    refine am_iload_n (q := 10) C dX1_size_9 rfl rfl ?_
    refine am_iconst (q := 11) (v := iZ 1) C dX1_size_10 rfl rfl ?_
    refine am_iaddZ (q := 12) C dX1_size_11 rfl ?_
    refine am_callV (q := 15) (As := [.int (iZ ((c : Int) + 1))]) (rest := []) C mb_X1_hasRay im_X1_hasRay se_X1_hasRay ml_X1_65 cb_1 kk_169 (show 169 < 215 by decide) dX1_size_12 rfl (sp_X1_hasRay hF (p := (c : Int) + 1) ⟨by omega, by omega⟩) rfl rfl ⟨by decide, by decide⟩ ⟨Nat.le_refl _, Nat.le_refl _⟩ (by decide) (am_rie ?_)
    refine am_ifB_ne (q := 18) (tgt := 20) C dX1_size_15 (by decide) rfl (fun h2 => ?_) (fun h2 => ?_)
    · refine am_aload_n (q := 21) C dX1_size_20 rfl rfl ?_
      refine am_getR (q := 24) C fb_X1_9 dX1_size_21 rfl rfl kk_169 (show 169 < 215 by decide) kr_169_0 ?_
      refine am_iload_n (q := 25) C dX1_size_24 rfl rfl ?_
      refine am_ialoadZ (q := 26) c C dX1_size_25 rfl kk_170 (show 170 < 215 by decide) rfl (by omega) (by decide) ?_
      refine am_intE (y := (iZ (ra l c : Int))) (f3 c (by omega)).1 ?_
      refine am_aload_n (q := 27) C dX1_size_26 rfl rfl ?_
      refine am_getR (q := 30) C fb_X1_15 dX1_size_27 rfl rfl kk_169 (show 169 < 215 by decide) kr_169_1 ?_
      refine am_iload_n (q := 31) C dX1_size_30 rfl rfl ?_
      refine am_ialoadZ (q := 32) c C dX1_size_31 rfl kk_171 (show 171 < 215 by decide) rfl (by omega) (by decide) ?_
      refine am_intE (y := (iZ (rb l c : Int))) (f3 c (by omega)).2.1 ?_
      refine am_aload_n (q := 33) C dX1_size_32 rfl rfl ?_
      refine am_getR (q := 36) C fb_X1_9 dX1_size_33 rfl rfl kk_169 (show 169 < 215 by decide) kr_169_0 ?_
      refine am_iload_n (q := 37) C dX1_size_36 rfl rfl ?_
      refine am_iconst (q := 38) (v := iZ 1) C dX1_size_37 rfl rfl ?_
      refine am_iaddZ (q := 39) C dX1_size_38 rfl ?_
      refine am_ialoadZ (q := 40) (c + 1) C dX1_size_39 rfl kk_170 (show 170 < 215 by decide) rfl (by omega) (by decide) ?_
      refine am_intE (y := (iZ (ra l (c + 1) : Int))) (f3 (c + 1) (by omega)).1 ?_
      refine am_aload_n (q := 41) C dX1_size_40 rfl rfl ?_
      refine am_getR (q := 44) C fb_X1_15 dX1_size_41 rfl rfl kk_169 (show 169 < 215 by decide) kr_169_1 ?_
      refine am_iload_n (q := 45) C dX1_size_44 rfl rfl ?_
      refine am_iconst (q := 46) (v := iZ 1) C dX1_size_45 rfl rfl ?_
      refine am_iaddZ (q := 47) C dX1_size_46 rfl ?_
      refine am_ialoadZ (q := 48) (c + 1) C dX1_size_47 rfl kk_171 (show 171 < 215 by decide) rfl (by omega) (by decide) ?_
      refine am_intE (y := (iZ (rb l (c + 1) : Int))) (f3 (c + 1) (by omega)).2.1 ?_
      refine am_callS (q := 51) (As := [.int (iZ (ra l c : Int)), .int (iZ (rb l c : Int)), .int (iZ (ra l (c + 1) : Int)), .int (iZ (rb l (c + 1) : Int))]) (rest := []) C mb_X1_turn st_X1_turn ml_X1_69 dX1_size_48 rfl (sp_X1_turn (ra l c : Int) (rb l c : Int) (ra l (c + 1) : Int) (rb l (c + 1) : Int)) rfl rfl ⟨by decide, by decide⟩ ⟨Nat.le_refl _, Nat.le_refl _⟩ (by decide) (am_rie ?_)
      refine am_iret C T dX1_size_51 rfl (Nat.le_refl _) (Nat.le_refl _) ⟨_, rfl, ?_⟩
      exact ⟨rfl, rfl⟩
    · exact absurd (show _ from by omega) h2
set_option maxRecDepth 4000 in
theorem sp_X1_firstSpan {l : List (Nat × Nat)} (hF : atF I l) {c : Nat} (hc : c + 1 < l.length) {x y : Int} : am_S G mX1_firstSpan 2 0 0 [.ref 169, .int (iZ (c : Int)), .int (iZ x), .int (iZ y)] (215, kK, kR, I, J) (am_fi (iZ (x * (rb l (c + 1) : Int) - y * (ra l (c + 1) : Int))) (215, kK, kR, I, J)) := by
  have f1 := hF.1
  have f2 := hF.2.1
  have f3 := hF.2.2
  refine am_spec (plainFor_of_name (by decide +kernel)) (Nat.le_of_ble_eq_true rfl) (L := [some (.ref 169), some (.int (iZ (c : Int))), some (.int (iZ x)), some (.int (iZ y))]) rfl (fun X C T => ?_)
  refine am_aload_n (q := 1) C dX1_firstSpan_0 rfl rfl ?_
  refine am_iload_n (q := 2) C dX1_firstSpan_1 rfl rfl ?_
  refine am_iconst (q := 3) (v := iZ 1) C dX1_firstSpan_2 rfl rfl ?_
  refine am_iaddZ (q := 4) C dX1_firstSpan_3 rfl ?_
  refine am_callV (q := 7) (As := [.int (iZ ((c : Int) + 1))]) (rest := []) C mb_X1_hasRay im_X1_hasRay se_X1_hasRay ml_X1_65 cb_1 kk_169 (show 169 < 215 by decide) dX1_firstSpan_4 rfl (sp_X1_hasRay hF (p := (c : Int) + 1) ⟨by omega, by omega⟩) rfl rfl ⟨by decide, by decide⟩ ⟨Nat.le_refl _, Nat.le_refl _⟩ (by decide) (am_rie ?_)
  refine am_ifB_ne (q := 10) (tgt := 12) C dX1_firstSpan_7 (by decide) rfl (fun h1 => ?_) (fun h1 => ?_)
  · refine am_iload_n (q := 13) C dX1_firstSpan_12 rfl rfl ?_
    refine am_iload_n (q := 14) C dX1_firstSpan_13 rfl rfl ?_
    refine am_aload_n (q := 15) C dX1_firstSpan_14 rfl rfl ?_
    refine am_getR (q := 18) C fb_X1_9 dX1_firstSpan_15 rfl rfl kk_169 (show 169 < 215 by decide) kr_169_0 ?_
    refine am_iload_n (q := 19) C dX1_firstSpan_18 rfl rfl ?_
    refine am_iconst (q := 20) (v := iZ 1) C dX1_firstSpan_19 rfl rfl ?_
    refine am_iaddZ (q := 21) C dX1_firstSpan_20 rfl ?_
    refine am_ialoadZ (q := 22) (c + 1) C dX1_firstSpan_21 rfl kk_170 (show 170 < 215 by decide) rfl (by omega) (by decide) ?_
    refine am_intE (y := (iZ (ra l (c + 1) : Int))) (f3 (c + 1) (by omega)).1 ?_
    refine am_aload_n (q := 23) C dX1_firstSpan_22 rfl rfl ?_
    refine am_getR (q := 26) C fb_X1_15 dX1_firstSpan_23 rfl rfl kk_169 (show 169 < 215 by decide) kr_169_1 ?_
    refine am_iload_n (q := 27) C dX1_firstSpan_26 rfl rfl ?_
    refine am_iconst (q := 28) (v := iZ 1) C dX1_firstSpan_27 rfl rfl ?_
    refine am_iaddZ (q := 29) C dX1_firstSpan_28 rfl ?_
    refine am_ialoadZ (q := 30) (c + 1) C dX1_firstSpan_29 rfl kk_171 (show 171 < 215 by decide) rfl (by omega) (by decide) ?_
    refine am_intE (y := (iZ (rb l (c + 1) : Int))) (f3 (c + 1) (by omega)).2.1 ?_
    refine am_callS (q := 33) (As := [.int (iZ x), .int (iZ y), .int (iZ (ra l (c + 1) : Int)), .int (iZ (rb l (c + 1) : Int))]) (rest := []) C mb_X1_turn st_X1_turn ml_X1_69 dX1_firstSpan_30 rfl (sp_X1_turn x y (ra l (c + 1) : Int) (rb l (c + 1) : Int)) rfl rfl ⟨by decide, by decide⟩ ⟨Nat.le_refl _, Nat.le_refl _⟩ (by decide) (am_rie ?_)
    refine am_iret C T dX1_firstSpan_33 rfl (Nat.le_refl _) (Nat.le_refl _) ⟨_, rfl, ?_⟩
    exact ⟨rfl, rfl⟩
  · exact absurd (show _ from by omega) h1
set_option maxRecDepth 4000 in
theorem sp_X1_secondSpan {l : List (Nat × Nat)} (hF : atF I l) {c : Nat} (hc : c + 1 < l.length) {x y : Int} : am_S G mX1_secondSpan 2 0 0 [.ref 169, .int (iZ (c : Int)), .int (iZ x), .int (iZ y)] (215, kK, kR, I, J) (am_fi (iZ ((ra l c : Int) * y - (rb l c : Int) * x)) (215, kK, kR, I, J)) := by
  have f1 := hF.1
  have f2 := hF.2.1
  have f3 := hF.2.2
  refine am_spec (plainFor_of_name (by decide +kernel)) (Nat.le_of_ble_eq_true rfl) (L := [some (.ref 169), some (.int (iZ (c : Int))), some (.int (iZ x)), some (.int (iZ y))]) rfl (fun X C T => ?_)
  refine am_aload_n (q := 1) C dX1_secondSpan_0 rfl rfl ?_
  refine am_iload_n (q := 2) C dX1_secondSpan_1 rfl rfl ?_
  refine am_callV (q := 5) (As := [.int (iZ (c : Int))]) (rest := []) C mb_X1_hasRay im_X1_hasRay se_X1_hasRay ml_X1_65 cb_1 kk_169 (show 169 < 215 by decide) dX1_secondSpan_2 rfl (sp_X1_hasRay hF (p := (c : Int)) ⟨by omega, by omega⟩) rfl rfl ⟨by decide, by decide⟩ ⟨Nat.le_refl _, Nat.le_refl _⟩ (by decide) (am_rie ?_)
  refine am_ifB_ne (q := 8) (tgt := 10) C dX1_secondSpan_5 (by decide) rfl (fun h1 => ?_) (fun h1 => ?_)
  · refine am_aload_n (q := 11) C dX1_secondSpan_10 rfl rfl ?_
    refine am_getR (q := 14) C fb_X1_9 dX1_secondSpan_11 rfl rfl kk_169 (show 169 < 215 by decide) kr_169_0 ?_
    refine am_iload_n (q := 15) C dX1_secondSpan_14 rfl rfl ?_
    refine am_ialoadZ (q := 16) c C dX1_secondSpan_15 rfl kk_170 (show 170 < 215 by decide) rfl (by omega) (by decide) ?_
    refine am_intE (y := (iZ (ra l c : Int))) (f3 c (by omega)).1 ?_
    refine am_aload_n (q := 17) C dX1_secondSpan_16 rfl rfl ?_
    refine am_getR (q := 20) C fb_X1_15 dX1_secondSpan_17 rfl rfl kk_169 (show 169 < 215 by decide) kr_169_1 ?_
    refine am_iload_n (q := 21) C dX1_secondSpan_20 rfl rfl ?_
    refine am_ialoadZ (q := 22) c C dX1_secondSpan_21 rfl kk_171 (show 171 < 215 by decide) rfl (by omega) (by decide) ?_
    refine am_intE (y := (iZ (rb l c : Int))) (f3 c (by omega)).2.1 ?_
    refine am_iload_n (q := 23) C dX1_secondSpan_22 rfl rfl ?_
    refine am_iload_n (q := 24) C dX1_secondSpan_23 rfl rfl ?_
    refine am_callS (q := 27) (As := [.int (iZ (ra l c : Int)), .int (iZ (rb l c : Int)), .int (iZ x), .int (iZ y)]) (rest := []) C mb_X1_turn st_X1_turn ml_X1_69 dX1_secondSpan_24 rfl (sp_X1_turn (ra l c : Int) (rb l c : Int) x y) rfl rfl ⟨by decide, by decide⟩ ⟨Nat.le_refl _, Nat.le_refl _⟩ (by decide) (am_rie ?_)
    refine am_iret C T dX1_secondSpan_27 rfl (Nat.le_refl _) (Nat.le_refl _) ⟨_, rfl, ?_⟩
    exact ⟨rfl, rfl⟩
  · exact absurd (show _ from by omega) h1
