variable {G : am_G} {I : Nat → Nat → Int32} {J : Nat → Nat → Int64}
set_option maxRecDepth 4000 in
theorem sp_X5_has {h : Nat} (hP : isP h) {t : PT} (hA : atP h I J t) (hK : okP t) {p : Int} (hp : rg p) : am_S G mX5_has 1 0 0 [.ref h, .int (iZ p)] (215, kK, kR, I, J) (am_fi (if 0 ≤ p ∧ p < pm t then 1 else 0) (215, kK, kR, I, J)) := by
  have hm := hK.1
  refine am_spec (plainFor_of_name (by decide +kernel)) (Nat.le_of_ble_eq_true rfl) (L := [some (.ref h), some (.int (iZ p))]) rfl (fun X C T => ?_)
  refine am_iload_n (q := 1) C dX5_has_0 rfl rfl ?_
  refine am_ifZ_lt (q := 4) (tgt := 22) C dX5_has_1 (by decide) rfl hp (fun h1 => ?_) (fun h1 => ?_)
  · refine am_iconst (q := 23) (v := iZ 0) C dX5_has_22 rfl rfl ?_
    refine am_zretB (b := false) C T dX5_has_23 rfl (Nat.le_refl _) (Nat.le_refl _) rfl ⟨_, rfl, ?_⟩
    refine ⟨?_, rfl⟩
    first | (rw [if_pos (by omega)]; rfl) | (rw [if_neg (by omega)]; rfl)
  · refine am_iload_n (q := 5) C dX5_has_4 rfl rfl ?_
    refine am_aload_n (q := 6) C dX5_has_5 rfl rfl ?_
    refine am_getIe (q := 9) (v := (iZ (pm t : Int))) C fb_X5_25 dX5_has_6 rfl rfl hP.2.1 (show h < 215 by have := hP.1; omega) hA.1 ?_
    refine am_icmpZ_ge (q := 12) (tgt := 22) C dX5_has_9 (by decide) rfl hp ⟨by omega, by omega⟩ (fun h2 => ?_) (fun h2 => ?_)
    · refine am_iconst (q := 23) (v := iZ 0) C dX5_has_22 rfl rfl ?_
      refine am_zretB (b := false) C T dX5_has_23 rfl (Nat.le_refl _) (Nat.le_refl _) rfl ⟨_, rfl, ?_⟩
      refine ⟨?_, rfl⟩
      first | (rw [if_pos (by omega)]; rfl) | (rw [if_neg (by omega)]; rfl)
    · refine am_iload_n (q := 13) C dX5_has_12 rfl rfl ?_
      refine am_bipush (q := 15) (v := iZ 6) C dX5_has_13 rfl rfl ?_
      refine am_icmpZ_ge (q := 18) (tgt := 22) C dX5_has_15 (by decide) rfl hp ⟨by omega, by omega⟩ (fun h3 => ?_) (fun h3 => ?_)
      · refine am_iconst (q := 23) (v := iZ 0) C dX5_has_22 rfl rfl ?_
        refine am_zretB (b := false) C T dX5_has_23 rfl (Nat.le_refl _) (Nat.le_refl _) rfl ⟨_, rfl, ?_⟩
        refine ⟨?_, rfl⟩
        first | (rw [if_pos (by omega)]; rfl) | (rw [if_neg (by omega)]; rfl)
      · refine am_iconst (q := 19) (v := iZ 1) C dX5_has_18 rfl rfl ?_
        refine am_goto (q := 23) C dX5_has_19 (by decide) ?_
        refine am_zretB (b := true) C T dX5_has_23 rfl (Nat.le_refl _) (Nat.le_refl _) rfl ⟨_, rfl, ?_⟩
        refine ⟨?_, rfl⟩
        first | (rw [if_pos (by omega)]; rfl) | (rw [if_neg (by omega)]; rfl)
def bitOf (s k : Nat) : Nat := s / 2 ^ k % 2
theorem bitOf_le (s k : Nat) : bitOf s k ≤ 1 := by unfold bitOf; omega
theorem bit_long {s : Nat} {k : Int} (hs : s < 2 ^ 61) (hk : 0 ≤ k ∧ k < 64) : jushrL (lN s) (iZ k) &&& 1 = lN (bitOf s k.toNat) := by
  rw [jushrL_lN (by omega) hk, wb_a1 (Nat.lt_of_le_of_lt (Nat.div_le_self _ _) (by omega))]
  rfl
/-- what allows says -/
abbrev alw (t : PT) (p k : Int) : Prop := 0 ≤ p ∧ p < pm t ∧ bitOf (ps t p.toNat) k.toNat = 1
set_option maxRecDepth 4000 in
theorem sp_X5_allows {h : Nat} (hP : isP h) {t : PT} (hA : atP h I J t) (hK : okP t) {p k : Int} (hp : rg p) (hk : 0 ≤ k ∧ k < 64) : am_S G mX5_allows 2 0 0 [.ref h, .int (iZ p), .int (iZ k)] (215, kK, kR, I, J) (am_fi (if alw t p k then 1 else 0) (215, kK, kR, I, J)) := by
  have hm := hK.1
  refine am_spec (plainFor_of_name (by decide +kernel)) (Nat.le_of_ble_eq_true rfl) (L := [some (.ref h), some (.int (iZ p)), some (.int (iZ k))]) rfl (fun X C T => ?_)
  refine am_aload_n (q := 1) C dX5_allows_0 rfl rfl ?_
  refine am_iload_n (q := 2) C dX5_allows_1 rfl rfl ?_
  refine am_callV (q := 5) (As := [.int (iZ p)]) (rest := []) C mb_X5_has im_X5_has se_X5_has ml_X5_31 cb_5 hP.2.1 (show h < 215 by have := hP.1; omega) dX5_allows_2 rfl (sp_X5_has hP hA hK hp) rfl rfl ⟨by decide, by decide⟩ ⟨Nat.le_refl _, Nat.le_refl _⟩ (by decide) (am_rie ?_)
  refine am_ifB_eq (q := 8) (tgt := 27) C dX5_allows_5 (by decide) rfl (fun h1 => ?_) (fun h1 => ?_)
  · refine am_iconst (q := 28) (v := iZ 0) C dX5_allows_27 rfl rfl ?_
    refine am_zretB (b := false) C T dX5_allows_28 rfl (Nat.le_refl _) (Nat.le_refl _) rfl ⟨_, rfl, ?_⟩
    refine ⟨?_, rfl⟩
    first | (rw [if_pos ⟨by omega, by omega, by omega⟩]; rfl) | (rw [if_neg (fun ⟨z1, z2, z3⟩ => by omega)]; rfl) | (rw [if_neg (fun z => h1 ⟨z.1, z.2.1⟩)]; rfl)
  · refine am_aload_n (q := 9) C dX5_allows_8 rfl rfl ?_
    refine am_getR (q := 12) C fb_X5_21 dX5_allows_9 rfl rfl hP.2.1 (show h < 215 by have := hP.1; omega) hP.2.2.2.2.2.2.2.2.2 ?_
    refine am_iload_n (q := 13) C dX5_allows_12 rfl rfl ?_
    refine am_laloadZ (q := 14) p.toNat C dX5_allows_13 rfl hP.2.2.2.2.2.1 (show h + 4 < 215 by have := hP.1; omega) (by omega) (by omega) (by decide) ?_
    refine am_longE (y := (lN (ps t p.toNat))) (hA.2 p.toNat (by omega)).2.2.2 ?_
    refine am_iload_n (q := 15) C dX5_allows_14 rfl rfl ?_
    refine am_lushr (q := 16) C dX5_allows_15 rfl ?_
    refine am_lconst (q := 17) (v := lN 1) C dX5_allows_16 rfl rfl ?_
    refine am_land (q := 18) C dX5_allows_17 rfl ?_
    refine am_longE (y := (lN (bitOf (ps t p.toNat) k.toNat))) (bit_long (hK.2 p.toNat (by omega)).2.2.2.2.2 hk) ?_
    refine am_lconst (q := 19) (v := lN 1) C dX5_allows_18 rfl rfl ?_
    refine am_lcmp (q := 20) C dX5_allows_19 rfl ?_
    refine am_if_ne (q := 23) (tgt := 27) C dX5_allows_20 (by decide) rfl (fun h2 => ?_) (fun h2 => ?_)
    · have h2 : ¬ (_) := fun z => h2 (((lg_cmp_eq _ _).trans (pk_lEQ (by have := bitOf_le (ps t p.toNat) k.toNat; omega) (by decide))).mpr z)
      refine am_iconst (q := 28) (v := iZ 0) C dX5_allows_27 rfl rfl ?_
      refine am_zretB (b := false) C T dX5_allows_28 rfl (Nat.le_refl _) (Nat.le_refl _) rfl ⟨_, rfl, ?_⟩
      refine ⟨?_, rfl⟩
      first | (rw [if_pos ⟨by omega, by omega, by omega⟩]; rfl) | (rw [if_neg (fun ⟨z1, z2, z3⟩ => by omega)]; rfl) | (rw [if_neg (fun z => h1 ⟨z.1, z.2.1⟩)]; rfl)
    · have h2 := ((lg_cmp_eq _ _).trans (pk_lEQ (by have := bitOf_le (ps t p.toNat) k.toNat; omega) (by decide))).mp h2
      refine am_iconst (q := 24) (v := iZ 1) C dX5_allows_23 rfl rfl ?_
      refine am_goto (q := 28) C dX5_allows_24 (by decide) ?_
      refine am_zretB (b := true) C T dX5_allows_28 rfl (Nat.le_refl _) (Nat.le_refl _) rfl ⟨_, rfl, ?_⟩
      refine ⟨?_, rfl⟩
      first | (rw [if_pos ⟨by omega, by omega, by omega⟩]; rfl) | (rw [if_neg (fun ⟨z1, z2, z3⟩ => by omega)]; rfl) | (rw [if_neg (fun z => h1 ⟨z.1, z.2.1⟩)]; rfl)
def sumN (f : Nat → Nat) : Nat → Nat
  | 0 => 0
  | n + 1 => sumN f n + f n
theorem sumN_le (f : Nat → Nat) {c : Nat} : ∀ n, (∀ p, p < n → f p ≤ c) → sumN f n ≤ n * c
  | 0, _ => Nat.zero_le _
  | n + 1, h => by
    have h1 := sumN_le f (c := c) n (fun p hp => h p (by omega))
    have h2 := h n (by omega)
    rw [Nat.succ_mul]
    show sumN f n + f n ≤ _
    omega
set_option maxRecDepth 4000 in
theorem sp_X5_acrossTogether {h : Nat} (hP : isP h) {t : PT} (hA : atP h I J t) (hK : okP t) : am_S G mX5_acrossTogether 1 0 0 [.ref h] (215, kK, kR, I, J) (am_fi (iZ (sumN (pa t) (pm t) : Int)) (215, kK, kR, I, J)) := by
  have hm := hK.1
  refine am_spec (plainFor_of_name (by decide +kernel)) (Nat.le_of_ble_eq_true rfl) (L := [some (.ref h), none, none]) rfl (fun X C T => ?_)
  have lp : ∀ (fuel : Nat) (p : Nat), (p ≤ pm t) → (pm t - p) < fuel → am_A G mX5_acrossTogether X (am_rm 1 0 0) 4 [some (.ref h), some (.int (iZ (sumN (pa t) p : Int))), some (.int (iZ (p : Int)))] [] (215, kK, kR, I, J) 0 0 := by
    intro fuel
    induction fuel with
    | zero => intro p hp hf; exact absurd hf (Nat.not_lt_zero _)
    | succ fuel ih =>
      intro p hp hf
      refine am_iload_n (q := 5) C dX5_acrossTogether_4 rfl rfl ?_
      refine am_aload_n (q := 6) C dX5_acrossTogether_5 rfl rfl ?_
      refine am_getIe (q := 9) (v := (iZ (pm t : Int))) C fb_X5_25 dX5_acrossTogether_6 rfl rfl hP.2.1 (show h < 215 by have := hP.1; omega) hA.1 ?_
      refine am_icmpZ_ge (q := 12) (tgt := 33) C dX5_acrossTogether_9 (by decide) rfl ⟨by omega, by omega⟩ ⟨by omega, by omega⟩ (fun h1 => ?_) (fun h1 => ?_)
      · refine am_iload_n (q := 34) C dX5_acrossTogether_33 rfl rfl ?_
        refine am_iret C T dX5_acrossTogether_34 rfl (Nat.le_refl _) (Nat.le_refl _) ⟨_, rfl, ?_⟩
        rw [show p = pm t by omega]
        exact ⟨rfl, rfl⟩
      · refine am_iload_n (q := 13) C dX5_acrossTogether_12 rfl rfl ?_
        refine am_bipush (q := 15) (v := iZ 6) C dX5_acrossTogether_13 rfl rfl ?_
        refine am_icmpZ_ge (q := 18) (tgt := 33) C dX5_acrossTogether_15 (by decide) rfl ⟨by omega, by omega⟩ ⟨by omega, by omega⟩ (fun h2 => ?_) (fun h2 => ?_)
        · refine am_iload_n (q := 34) C dX5_acrossTogether_33 rfl rfl ?_
          refine am_iret C T dX5_acrossTogether_34 rfl (Nat.le_refl _) (Nat.le_refl _) ⟨_, rfl, ?_⟩
          rw [show p = pm t by omega]
          exact ⟨rfl, rfl⟩
        · refine am_iload_n (q := 19) C dX5_acrossTogether_18 rfl rfl ?_
          refine am_aload_n (q := 20) C dX5_acrossTogether_19 rfl rfl ?_
          refine am_getR (q := 23) C fb_X5_9 dX5_acrossTogether_20 rfl rfl hP.2.1 (show h < 215 by have := hP.1; omega) hP.2.2.2.2.2.2.1 ?_
          refine am_iload_n (q := 24) C dX5_acrossTogether_23 rfl rfl ?_
          refine am_ialoadZ (q := 25) p C dX5_acrossTogether_24 rfl hP.2.2.1 (show h + 1 < 215 by have := hP.1; omega) rfl (by omega) (by decide) ?_
          refine am_intE (y := (iZ (pa t p : Int))) (hA.2 p (by omega)).1 ?_
          refine am_iaddZ (q := 26) C dX5_acrossTogether_25 rfl ?_
          refine am_istore_n (q := 27) (L' := [some (.ref h), some (.int (iZ ((sumN (pa t) p : Int) + (pa t p : Int)))), some (.int (iZ (p : Int)))]) C dX5_acrossTogether_26 rfl (by decide) rfl rfl ?_
          refine am_iincZ (q := 30) (L' := [some (.ref h), some (.int (iZ ((sumN (pa t) p : Int) + (pa t p : Int)))), some (.int (iZ ((p + 1 : Nat) : Int)))]) C dX5_acrossTogether_27 rfl rfl (by omega) (by decide) rfl rfl ?_
          refine am_goto (q := 4) C dX5_acrossTogether_30 (by decide) ?_
          exact ih (p + 1) (by omega) (by omega)
  refine am_iconst (q := 1) (v := iZ 0) C dX5_acrossTogether_0 rfl rfl ?_
  refine am_istore_n (q := 2) (L' := [some (.ref h), some (.int (iZ 0)), none]) C dX5_acrossTogether_1 rfl (by decide) rfl rfl ?_
  refine am_iconst (q := 3) (v := iZ 0) C dX5_acrossTogether_2 rfl rfl ?_
  refine am_istore_n (q := 4) (L' := [some (.ref h), some (.int (iZ 0)), some (.int (iZ 0))]) C dX5_acrossTogether_3 rfl (by decide) rfl rfl ?_
  exact lp (pm t + 1) 0 (by omega) (by omega)
set_option maxRecDepth 4000 in
theorem sp_X5_upTogether {h : Nat} (hP : isP h) {t : PT} (hA : atP h I J t) (hK : okP t) : am_S G mX5_upTogether 1 0 0 [.ref h] (215, kK, kR, I, J) (am_fi (iZ (sumN (pb t) (pm t) : Int)) (215, kK, kR, I, J)) := by
  have hm := hK.1
  refine am_spec (plainFor_of_name (by decide +kernel)) (Nat.le_of_ble_eq_true rfl) (L := [some (.ref h), none, none]) rfl (fun X C T => ?_)
  have lp : ∀ (fuel : Nat) (p : Nat), (p ≤ pm t) → (pm t - p) < fuel → am_A G mX5_upTogether X (am_rm 1 0 0) 4 [some (.ref h), some (.int (iZ (sumN (pb t) p : Int))), some (.int (iZ (p : Int)))] [] (215, kK, kR, I, J) 0 0 := by
    intro fuel
    induction fuel with
    | zero => intro p hp hf; exact absurd hf (Nat.not_lt_zero _)
    | succ fuel ih =>
      intro p hp hf
      refine am_iload_n (q := 5) C dX5_upTogether_4 rfl rfl ?_
      refine am_aload_n (q := 6) C dX5_upTogether_5 rfl rfl ?_
      refine am_getIe (q := 9) (v := (iZ (pm t : Int))) C fb_X5_25 dX5_upTogether_6 rfl rfl hP.2.1 (show h < 215 by have := hP.1; omega) hA.1 ?_
      refine am_icmpZ_ge (q := 12) (tgt := 33) C dX5_upTogether_9 (by decide) rfl ⟨by omega, by omega⟩ ⟨by omega, by omega⟩ (fun h1 => ?_) (fun h1 => ?_)
      · refine am_iload_n (q := 34) C dX5_upTogether_33 rfl rfl ?_
        refine am_iret C T dX5_upTogether_34 rfl (Nat.le_refl _) (Nat.le_refl _) ⟨_, rfl, ?_⟩
        rw [show p = pm t by omega]
        exact ⟨rfl, rfl⟩
      · refine am_iload_n (q := 13) C dX5_upTogether_12 rfl rfl ?_
        refine am_bipush (q := 15) (v := iZ 6) C dX5_upTogether_13 rfl rfl ?_
        refine am_icmpZ_ge (q := 18) (tgt := 33) C dX5_upTogether_15 (by decide) rfl ⟨by omega, by omega⟩ ⟨by omega, by omega⟩ (fun h2 => ?_) (fun h2 => ?_)
        · refine am_iload_n (q := 34) C dX5_upTogether_33 rfl rfl ?_
          refine am_iret C T dX5_upTogether_34 rfl (Nat.le_refl _) (Nat.le_refl _) ⟨_, rfl, ?_⟩
          rw [show p = pm t by omega]
          exact ⟨rfl, rfl⟩
        · refine am_iload_n (q := 19) C dX5_upTogether_18 rfl rfl ?_
          refine am_aload_n (q := 20) C dX5_upTogether_19 rfl rfl ?_
          refine am_getR (q := 23) C fb_X5_15 dX5_upTogether_20 rfl rfl hP.2.1 (show h < 215 by have := hP.1; omega) hP.2.2.2.2.2.2.2.1 ?_
          refine am_iload_n (q := 24) C dX5_upTogether_23 rfl rfl ?_
          refine am_ialoadZ (q := 25) p C dX5_upTogether_24 rfl hP.2.2.2.1 (show h + 2 < 215 by have := hP.1; omega) rfl (by omega) (by decide) ?_
          refine am_intE (y := (iZ (pb t p : Int))) (hA.2 p (by omega)).2.1 ?_
          refine am_iaddZ (q := 26) C dX5_upTogether_25 rfl ?_
          refine am_istore_n (q := 27) (L' := [some (.ref h), some (.int (iZ ((sumN (pb t) p : Int) + (pb t p : Int)))), some (.int (iZ (p : Int)))]) C dX5_upTogether_26 rfl (by decide) rfl rfl ?_
          refine am_iincZ (q := 30) (L' := [some (.ref h), some (.int (iZ ((sumN (pb t) p : Int) + (pb t p : Int)))), some (.int (iZ ((p + 1 : Nat) : Int)))]) C dX5_upTogether_27 rfl rfl (by omega) (by decide) rfl rfl ?_
          refine am_goto (q := 4) C dX5_upTogether_30 (by decide) ?_
          exact ih (p + 1) (by omega) (by omega)
  refine am_iconst (q := 1) (v := iZ 0) C dX5_upTogether_0 rfl rfl ?_
  refine am_istore_n (q := 2) (L' := [some (.ref h), some (.int (iZ 0)), none]) C dX5_upTogether_1 rfl (by decide) rfl rfl ?_
  refine am_iconst (q := 3) (v := iZ 0) C dX5_upTogether_2 rfl rfl ?_
  refine am_istore_n (q := 4) (L' := [some (.ref h), some (.int (iZ 0)), some (.int (iZ 0))]) C dX5_upTogether_3 rfl (by decide) rfl rfl ?_
  exact lp (pm t + 1) 0 (by omega) (by omega)
set_option maxRecDepth 4000 in
theorem sp_max {a b : Int} (ha : rg a) (hb : rg b) : am_S G mJ9_max_7cf53 1 0 0 [.int (iZ a), .int (iZ b)] (215, kK, kR, I, J) (am_fi (iZ (max a b)) (215, kK, kR, I, J)) := by
  refine am_spec (by decide +kernel) (Nat.le_of_ble_eq_true rfl) (L := [some (.int (iZ a)), some (.int (iZ b))]) rfl (fun X C T => ?_)
  refine am_iload_n (q := 1) C dJ9_max_7cf53_0 rfl rfl ?_
  refine am_iload_n (q := 2) C dJ9_max_7cf53_1 rfl rfl ?_
  refine am_icmpZ_lt (q := 5) (tgt := 9) C dJ9_max_7cf53_2 (by decide) rfl ha hb (fun h1 => ?_) (fun h1 => ?_)
  · refine am_iload_n (q := 10) C dJ9_max_7cf53_9 rfl rfl ?_
    refine am_iret C T dJ9_max_7cf53_10 rfl (Nat.le_refl _) (Nat.le_refl _) ⟨_, rfl, ?_⟩
    refine ⟨congrArg iZ (by omega), rfl⟩
  · refine am_iload_n (q := 6) C dJ9_max_7cf53_5 rfl rfl ?_
    refine am_goto (q := 10) C dJ9_max_7cf53_6 (by decide) ?_
    refine am_iret C T dJ9_max_7cf53_10 rfl (Nat.le_refl _) (Nat.le_refl _) ⟨_, rfl, ?_⟩
    refine ⟨congrArg iZ (by omega), rfl⟩
set_option maxRecDepth 4000 in
theorem sp_min {a b : Int} (ha : rg a) (hb : rg b) : am_S G mJ9_min_7cf53 1 0 0 [.int (iZ a), .int (iZ b)] (215, kK, kR, I, J) (am_fi (iZ (min a b)) (215, kK, kR, I, J)) := by
  refine am_spec (by decide +kernel) (Nat.le_of_ble_eq_true rfl) (L := [some (.int (iZ a)), some (.int (iZ b))]) rfl (fun X C T => ?_)
  refine am_iload_n (q := 1) C dJ9_min_7cf53_0 rfl rfl ?_
  refine am_iload_n (q := 2) C dJ9_min_7cf53_1 rfl rfl ?_
  refine am_icmpZ_gt (q := 5) (tgt := 9) C dJ9_min_7cf53_2 (by decide) rfl ha hb (fun h1 => ?_) (fun h1 => ?_)
  · refine am_iload_n (q := 10) C dJ9_min_7cf53_9 rfl rfl ?_
    refine am_iret C T dJ9_min_7cf53_10 rfl (Nat.le_refl _) (Nat.le_refl _) ⟨_, rfl, ?_⟩
    refine ⟨congrArg iZ (by omega), rfl⟩
  · refine am_iload_n (q := 6) C dJ9_min_7cf53_5 rfl rfl ?_
    refine am_goto (q := 10) C dJ9_min_7cf53_6 (by decide) ?_
    refine am_iret C T dJ9_min_7cf53_10 rfl (Nat.le_refl _) (Nat.le_refl _) ⟨_, rfl, ?_⟩
    refine ⟨congrArg iZ (by omega), rfl⟩
set_option maxRecDepth 4000 in
theorem sp_abs {a : Int} (ha : rg a) : am_S G mJ9_abs_0f7a4 1 0 0 [.int (iZ a)] (215, kK, kR, I, J) (am_fi (iZ (if a < 0 then -a else a)) (215, kK, kR, I, J)) := by
  refine am_spec (by decide +kernel) (Nat.le_of_ble_eq_true rfl) (L := [some (.int (iZ a))]) rfl (fun X C T => ?_)
  refine am_iload_n (q := 1) C dJ9_abs_0f7a4_0 rfl rfl ?_
  refine am_ifZ_ge (q := 4) (tgt := 9) C dJ9_abs_0f7a4_1 (by decide) rfl ha (fun h1 => ?_) (fun h1 => ?_)
  · refine am_iload_n (q := 10) C dJ9_abs_0f7a4_9 rfl rfl ?_
    refine am_iret C T dJ9_abs_0f7a4_10 rfl (Nat.le_refl _) (Nat.le_refl _) ⟨_, rfl, ?_⟩
    refine ⟨congrArg iZ (by omega), rfl⟩
  · refine am_iload_n (q := 5) C dJ9_abs_0f7a4_4 rfl rfl ?_
    refine am_inegZ (q := 6) C dJ9_abs_0f7a4_5 rfl ?_
    refine am_goto (q := 10) C dJ9_abs_0f7a4_6 (by decide) ?_
    refine am_iret C T dJ9_abs_0f7a4_10 rfl (Nat.le_refl _) (Nat.le_refl _) ⟨_, rfl, ?_⟩
    refine ⟨congrArg iZ (by omega), rfl⟩
/-- rows outside lo..hi stay -/
def fr (lo hi : Nat) (I : Nat → Nat → Int32) (J : Nat → Nat → Int64) (I' : Nat → Nat → Int32) (J' : Nat → Nat → Int64) : Prop := ∀ x, x < lo ∨ hi < x → I' x = I x ∧ J' x = J x
/-- a part comes at the end -/
def addP (t : PT) (a b : Nat) : PT := (pm t + 1, fun p => if p = pm t then a else pa t p, fun p => if p = pm t then b else pb t p, fun p => if p = pm t then 1 else pw t p, fun p => if p = pm t then 2305843009213693951 else ps t p)
theorem pm_add (t : PT) (a b : Nat) : pm (addP t a b) = pm t + 1 := rfl
theorem pa_add (t : PT) (a b p : Nat) : pa (addP t a b) p = if p = pm t then a else pa t p := rfl
theorem pb_add (t : PT) (a b p : Nat) : pb (addP t a b) p = if p = pm t then b else pb t p := rfl
theorem pw_add (t : PT) (a b p : Nat) : pw (addP t a b) p = if p = pm t then 1 else pw t p := rfl
theorem ps_add (t : PT) (a b p : Nat) : ps (addP t a b) p = if p = pm t then 2305843009213693951 else ps t p := rfl
theorem okP_add {t : PT} (h : okP t) (hm : pm t < 6) {a b : Nat} (ha : a ≤ 4) (hb : b ≤ 4) (hab : 1 ≤ a + b) : okP (addP t a b) := by
  refine ⟨hm, fun p hp => ?_⟩
  by_cases e : p = pm t
  · rw [pa_add, pb_add, pw_add, ps_add, if_pos e, if_pos e, if_pos e, if_pos e]; omega
  · have h1 := h.2 p (by have : p < pm t + 1 := hp; omega)
    rw [pa_add, pb_add, pw_add, ps_add, if_neg e, if_neg e, if_neg e, if_neg e]; exact h1
set_option maxRecDepth 4000 in
theorem sp_X5_add {h : Nat} (hP : isP h) {t : PT} (hA : atP h I J t) (hK : okP t) {a b : Nat} (hm6 : pm t < 6) : am_S G mX5_add 1 0 0 [.ref h, .int (iZ (a : Int)), .int (iZ (b : Int))] (215, kK, kR, I, J) (am_qv (fun w' => ∃ (I' : Nat → Nat → Int32) (J' : Nat → Nat → Int64), w' = (215, kK, kR, I', J') ∧ atP h I' J' (addP t a b) ∧ fr h (h + 4) I J I' J')) := by
  have hm := hK.1
  refine am_spec (plainFor_of_name (by decide +kernel)) (Nat.le_of_ble_eq_true rfl) (L := [some (.ref h), some (.int (iZ (a : Int))), some (.int (iZ (b : Int)))]) rfl (fun X C T => ?_)
  refine am_aload_n (q := 1) C dX5_add_0 rfl rfl ?_
  refine am_getIe (q := 4) (v := (iZ (pm t : Int))) C fb_X5_25 dX5_add_1 rfl rfl hP.2.1 (show h < 215 by have := hP.1; omega) hA.1 ?_
  refine am_ifZ_lt (q := 7) (tgt := 16) C dX5_add_4 (by decide) rfl ⟨by omega, by omega⟩ (fun h1 => ?_) (fun h1 => ?_)
  · exact absurd h1 (by omega)
  · refine am_aload_n (q := 8) C dX5_add_7 rfl rfl ?_
    refine am_getIe (q := 11) (v := (iZ (pm t : Int))) C fb_X5_25 dX5_add_8 rfl rfl hP.2.1 (show h < 215 by have := hP.1; omega) hA.1 ?_
    refine am_bipush (q := 13) (v := iZ 6) C dX5_add_11 rfl rfl ?_
    refine am_icmpZ_lt (q := 16) (tgt := 17) C dX5_add_13 (by decide) rfl ⟨by omega, by omega⟩ ⟨by omega, by omega⟩ (fun h2 => ?_) (fun h2 => ?_)
    · refine am_aload_n (q := 18) C dX5_add_17 rfl rfl ?_
      refine am_getR (q := 21) C fb_X5_9 dX5_add_18 rfl rfl hP.2.1 (show h < 215 by have := hP.1; omega) hP.2.2.2.2.2.2.1 ?_
      refine am_aload_n (q := 22) C dX5_add_21 rfl rfl ?_
      refine am_getIe (q := 25) (v := (iZ (pm t : Int))) C fb_X5_25 dX5_add_22 rfl rfl hP.2.1 (show h < 215 by have := hP.1; omega) hA.1 ?_
      refine am_iload_n (q := 26) C dX5_add_25 rfl rfl ?_
      refine am_iastoreZ (q := 27) (pm t) C dX5_add_26 rfl hP.2.2.1 (show h + 1 < 215 by have := hP.1; omega) rfl (by omega) (by decide) ?_
      refine am_aload_n (q := 28) C dX5_add_27 rfl rfl ?_
      refine am_getR (q := 31) C fb_X5_15 dX5_add_28 rfl rfl hP.2.1 (show h < 215 by have := hP.1; omega) hP.2.2.2.2.2.2.2.1 ?_
      refine am_aload_n (q := 32) C dX5_add_31 rfl rfl ?_
      refine am_getIe (q := 35) (v := (iZ (pm t : Int))) C fb_X5_25 dX5_add_32 rfl rfl hP.2.1 (show h < 215 by have := hP.1; omega) (by simp [am_up]; exact hA.1) ?_
      refine am_iload_n (q := 36) C dX5_add_35 rfl rfl ?_
      refine am_iastoreZ (q := 37) (pm t) C dX5_add_36 rfl hP.2.2.2.1 (show h + 2 < 215 by have := hP.1; omega) rfl (by omega) (by decide) ?_
      refine am_aload_n (q := 38) C dX5_add_37 rfl rfl ?_
      refine am_getR (q := 41) C fb_X5_18 dX5_add_38 rfl rfl hP.2.1 (show h < 215 by have := hP.1; omega) hP.2.2.2.2.2.2.2.2.1 ?_
      refine am_aload_n (q := 42) C dX5_add_41 rfl rfl ?_
      refine am_getIe (q := 45) (v := (iZ (pm t : Int))) C fb_X5_25 dX5_add_42 rfl rfl hP.2.1 (show h < 215 by have := hP.1; omega) (by simp [am_up]; exact hA.1) ?_
      refine am_iconst (q := 46) (v := iZ 1) C dX5_add_45 rfl rfl ?_
      refine am_iastoreZ (q := 47) (pm t) C dX5_add_46 rfl hP.2.2.2.2.1 (show h + 3 < 215 by have := hP.1; omega) rfl (by omega) (by decide) ?_
      refine am_aload_n (q := 48) C dX5_add_47 rfl rfl ?_
      refine am_getR (q := 51) C fb_X5_21 dX5_add_48 rfl rfl hP.2.1 (show h < 215 by have := hP.1; omega) hP.2.2.2.2.2.2.2.2.2 ?_
      refine am_aload_n (q := 52) C dX5_add_51 rfl rfl ?_
      refine am_getIe (q := 55) (v := (iZ (pm t : Int))) C fb_X5_25 dX5_add_52 rfl rfl hP.2.1 (show h < 215 by have := hP.1; omega) (by simp [am_up]; exact hA.1) ?_
      refine am_ldc2 (q := 58) C dX5_add_55 rfl ck_X5_29 ?_
      refine am_longE (y := lN 2305843009213693951) rfl ?_
      refine am_lastoreZ (q := 59) (pm t) C dX5_add_58 rfl hP.2.2.2.2.2.1 (show h + 4 < 215 by have := hP.1; omega) rfl (by omega) (by decide) ?_
      refine am_aload_n (q := 60) C dX5_add_59 rfl rfl ?_
      refine am_dup (q := 61) C dX5_add_60 rfl rfl ?_
      refine am_getIe (q := 64) (v := (iZ (pm t : Int))) C fb_X5_25 dX5_add_61 rfl rfl hP.2.1 (show h < 215 by have := hP.1; omega) (by simp [am_up]; exact hA.1) ?_
      refine am_iconst (q := 65) (v := iZ 1) C dX5_add_64 rfl rfl ?_
      refine am_iaddZ (q := 66) C dX5_add_65 rfl ?_
      refine am_putI (q := 69) C fw_X5_25 dX5_add_66 rfl rfl hP.2.1 (show h < 215 by have := hP.1; omega) ?_
      refine am_vret C T dX5_add_69 rfl (Nat.le_refl _) (Nat.le_refl _) ⟨rfl, ?_⟩
      refine ⟨_, _, rfl, ⟨by rw [am_up_eq, pm_add]; rfl, fun p hp => ?_⟩, fun x hx => ⟨by repeat rw [am_up_row _ _ _ _ (by omega)], by rw [am_up_row _ _ _ _ (by omega)]⟩⟩
      by_cases e : p = pm t
      · subst e; rw [pa_add, pb_add, pw_add, ps_add]; simp [am_up]
      · have h1 := hA.2 p (by have : p < pm t + 1 := hp; omega)
        rw [pa_add, pb_add, pw_add, ps_add]; simp [am_up, e]; exact h1
    · exact absurd h2 (by omega)
set_option maxRecDepth 4000 in
theorem sp_X5_become {h g : Nat} (hP : isP h) (hPg : isP g) (hd : g + 4 < h ∨ h + 4 < g) {t : PT} (hA : atP g I J t) (hK : okP t) : am_S G mX5_become 1 0 0 [.ref h, .ref g] (215, kK, kR, I, J) (am_qv (fun w' => ∃ (I' : Nat → Nat → Int32) (J' : Nat → Nat → Int64), w' = (215, kK, kR, I', J') ∧ atP h I' J' t ∧ fr h (h + 4) I J I' J')) := by
  have hm := hK.1
  refine am_spec (plainFor_of_name (by decide +kernel)) (Nat.le_of_ble_eq_true rfl) (L := [some (.ref h), some (.ref g), none]) rfl (fun X C T => ?_)
  have lp : ∀ (fuel : Nat) (p : Nat) (I1 : Nat → Nat → Int32) (J1 : Nat → Nat → Int64), (p ≤ 6) → (∀ x, x < h + 1 ∨ h + 3 < x → I1 x = I x) → (∀ x, x ≠ h + 4 → J1 x = J x) → (∀ q, q < p → I1 (h + 1) q = I (g + 1) q ∧ I1 (h + 2) q = I (g + 2) q ∧ I1 (h + 3) q = I (g + 3) q ∧ J1 (h + 4) q = J (g + 4) q) → (6 - p) < fuel → am_A G mX5_become X (am_rm 1 0 0) 2 [some (.ref h), some (.ref g), some (.int (iZ (p : Int)))] [] (215, kK, kR, I1, J1) 0 0 := by
    intro fuel
    induction fuel with
    | zero => intro p I1 J1 hp hI hJ hc hf; exact absurd hf (Nat.not_lt_zero _)
    | succ fuel ih =>
      intro p I1 J1 hp hI hJ hc hf
      refine am_iload_n (q := 3) C dX5_become_2 rfl rfl ?_
      refine am_bipush (q := 5) (v := iZ 6) C dX5_become_3 rfl rfl ?_
      refine am_icmpZ_ge (q := 8) (tgt := 62) C dX5_become_5 (by decide) rfl ⟨by omega, by omega⟩ ⟨by omega, by omega⟩ (fun h1 => ?_) (fun h1 => ?_)
      · refine am_aload_n (q := 63) C dX5_become_62 rfl rfl ?_
        refine am_aload_n (q := 64) C dX5_become_63 rfl rfl ?_
        refine am_getIe (q := 67) (v := (I g 4)) C fb_X5_25 dX5_become_64 rfl rfl hPg.2.1 (show g < 215 by have := hPg.1; omega) (by rw [hI _ (by omega)]) ?_
        refine am_putI (q := 70) C fw_X5_25 dX5_become_67 rfl rfl hP.2.1 (show h < 215 by have := hP.1; omega) ?_
        refine am_vret C T dX5_become_70 rfl (Nat.le_refl _) (Nat.le_refl _) ⟨rfl, ?_⟩
        have e : p = 6 := by omega
        subst e
        refine ⟨_, _, rfl, ⟨by rw [am_up_eq]; exact hA.1, fun q hq => ?_⟩, fun x hx => ⟨by rw [am_up_row _ _ _ _ (by omega)]; exact hI x (by omega), hJ x (by omega)⟩⟩
        obtain ⟨c1, c2, c3, c4⟩ := hc q (by omega)
        obtain ⟨a1, a2, a3, a4⟩ := hA.2 q hq
        rw [am_up_row _ _ _ _ (by omega), am_up_row _ _ _ _ (by omega), am_up_row _ _ _ _ (by omega)]
        exact ⟨c1.trans a1, c2.trans a2, c3.trans a3, c4.trans a4⟩
      · refine am_aload_n (q := 9) C dX5_become_8 rfl rfl ?_
        refine am_getR (q := 12) C fb_X5_9 dX5_become_9 rfl rfl hP.2.1 (show h < 215 by have := hP.1; omega) hP.2.2.2.2.2.2.1 ?_
        refine am_iload_n (q := 13) C dX5_become_12 rfl rfl ?_
        refine am_aload_n (q := 14) C dX5_become_13 rfl rfl ?_
        refine am_getR (q := 17) C fb_X5_9 dX5_become_14 rfl rfl hPg.2.1 (show g < 215 by have := hPg.1; omega) hPg.2.2.2.2.2.2.1 ?_
        refine am_iload_n (q := 18) C dX5_become_17 rfl rfl ?_
        refine am_ialoadZ (q := 19) p C dX5_become_18 rfl hPg.2.2.1 (show g + 1 < 215 by have := hPg.1; omega) rfl (by omega) (by decide) ?_
        refine am_intE (y := (I (g + 1) p)) (by rw [hI _ (by omega)]) ?_
        refine am_iastoreZ (q := 20) p C dX5_become_19 rfl hP.2.2.1 (show h + 1 < 215 by have := hP.1; omega) rfl (by omega) (by decide) ?_
        refine am_aload_n (q := 21) C dX5_become_20 rfl rfl ?_
        refine am_getR (q := 24) C fb_X5_15 dX5_become_21 rfl rfl hP.2.1 (show h < 215 by have := hP.1; omega) hP.2.2.2.2.2.2.2.1 ?_
        refine am_iload_n (q := 25) C dX5_become_24 rfl rfl ?_
        refine am_aload_n (q := 26) C dX5_become_25 rfl rfl ?_
        refine am_getR (q := 29) C fb_X5_15 dX5_become_26 rfl rfl hPg.2.1 (show g < 215 by have := hPg.1; omega) hPg.2.2.2.2.2.2.2.1 ?_
        refine am_iload_n (q := 30) C dX5_become_29 rfl rfl ?_
        refine am_ialoadZ (q := 31) p C dX5_become_30 rfl hPg.2.2.2.1 (show g + 2 < 215 by have := hPg.1; omega) rfl (by omega) (by decide) ?_
        refine am_intE (y := (I (g + 2) p)) (by rw [am_up_row _ _ _ _ (by omega), hI _ (by omega)]) ?_
        refine am_iastoreZ (q := 32) p C dX5_become_31 rfl hP.2.2.2.1 (show h + 2 < 215 by have := hP.1; omega) rfl (by omega) (by decide) ?_
        refine am_aload_n (q := 33) C dX5_become_32 rfl rfl ?_
        refine am_getR (q := 36) C fb_X5_18 dX5_become_33 rfl rfl hP.2.1 (show h < 215 by have := hP.1; omega) hP.2.2.2.2.2.2.2.2.1 ?_
        refine am_iload_n (q := 37) C dX5_become_36 rfl rfl ?_
        refine am_aload_n (q := 38) C dX5_become_37 rfl rfl ?_
        refine am_getR (q := 41) C fb_X5_18 dX5_become_38 rfl rfl hPg.2.1 (show g < 215 by have := hPg.1; omega) hPg.2.2.2.2.2.2.2.2.1 ?_
        refine am_iload_n (q := 42) C dX5_become_41 rfl rfl ?_
        refine am_ialoadZ (q := 43) p C dX5_become_42 rfl hPg.2.2.2.2.1 (show g + 3 < 215 by have := hPg.1; omega) rfl (by omega) (by decide) ?_
        refine am_intE (y := (I (g + 3) p)) (by rw [am_up_row _ _ _ _ (by omega), am_up_row _ _ _ _ (by omega), hI _ (by omega)]) ?_
        refine am_iastoreZ (q := 44) p C dX5_become_43 rfl hP.2.2.2.2.1 (show h + 3 < 215 by have := hP.1; omega) rfl (by omega) (by decide) ?_
        refine am_aload_n (q := 45) C dX5_become_44 rfl rfl ?_
        refine am_getR (q := 48) C fb_X5_21 dX5_become_45 rfl rfl hP.2.1 (show h < 215 by have := hP.1; omega) hP.2.2.2.2.2.2.2.2.2 ?_
        refine am_iload_n (q := 49) C dX5_become_48 rfl rfl ?_
        refine am_aload_n (q := 50) C dX5_become_49 rfl rfl ?_
        refine am_getR (q := 53) C fb_X5_21 dX5_become_50 rfl rfl hPg.2.1 (show g < 215 by have := hPg.1; omega) hPg.2.2.2.2.2.2.2.2.2 ?_
        refine am_iload_n (q := 54) C dX5_become_53 rfl rfl ?_
        refine am_laloadZ (q := 55) p C dX5_become_54 rfl hPg.2.2.2.2.2.1 (show g + 4 < 215 by have := hPg.1; omega) rfl (by omega) (by decide) ?_
        refine am_longE (y := (J (g + 4) p)) (by rw [hJ _ (by omega)]) ?_
        refine am_lastoreZ (q := 56) p C dX5_become_55 rfl hP.2.2.2.2.2.1 (show h + 4 < 215 by have := hP.1; omega) rfl (by omega) (by decide) ?_
        refine am_iincZ (q := 59) (L' := [some (.ref h), some (.ref g), some (.int (iZ ((p + 1 : Nat) : Int)))]) C dX5_become_56 rfl rfl (by omega) (by decide) rfl rfl ?_
        refine am_goto (q := 2) C dX5_become_59 (by decide) ?_
        refine ih (p + 1) _ _ (by omega) (fun x hx => ?_) (fun x hx => ?_) (fun q hq => ?_) (by omega)
        · repeat rw [am_up_row _ _ _ _ (by omega)]
          exact hI x hx
        · rw [am_up_row _ _ _ _ (by omega)]; exact hJ x hx
        · by_cases e : q = p
          · subst e; simp [am_up]
          · have h1 := hc q (by omega)
            simp [am_up, e]; exact h1
  refine am_iconst (q := 1) (v := iZ 0) C dX5_become_0 rfl rfl ?_
  refine am_istore_n (q := 2) (L' := [some (.ref h), some (.ref g), some (.int (iZ 0))]) C dX5_become_1 rfl (by decide) rfl rfl ?_
  exact lp 7 0 I J (by omega) (fun x _ => rfl) (fun x _ => rfl) (fun q hq => absurd hq (Nat.not_lt_zero _)) (by omega)
