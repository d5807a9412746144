variable {G : am_G} {I : Nat → Nat → Int32} {J : Nat → Nat → Int64}
set_option maxRecDepth 4000 in
theorem sp_X5_has {h : Nat} (hP : isP h) {t : PT} (hA : atP h I J t) (hK : okP t) {p : Int} (hp : rg p) : am_S G mX5_has 1 0 0 [.ref h, .int (iZ p)] (215, kK, kR, I, J) (am_fi (if 0 ≤ p ∧ p < pm t then 1 else 0) (215, kK, kR, I, J)) := by
  have hm := hK.1
  refine am_spec (by decide +kernel) (Nat.le_of_ble_eq_true rfl) (L := [some (.ref h), some (.int (iZ p))]) rfl (fun X C T => ?_)
  refine am_iload_n (q := 1) C dX5_has_0 rfl rfl ?_
  refine am_ifZ_lt (q := 4) (tgt := 22) C dX5_has_1 (by decide) rfl hp (fun h1 => ?_) (fun h1 => ?_)
  · refine am_iconst (q := 23) (v := iZ 0) C dX5_has_22 rfl rfl ?_
    refine am_zretB (b := false) C T dX5_has_23 rfl (Nat.le_refl _) (Nat.le_refl _) rfl ⟨_, rfl, ?_⟩
    refine ⟨?_, rfl⟩
    first | (rw [if_pos (by omega)]; rfl) | (rw [if_neg (by omega)]; rfl)
  · refine am_iload_n (q := 5) C dX5_has_4 rfl rfl ?_
    refine am_aload_n (q := 6) C dX5_has_5 rfl rfl ?_
    refine am_getIe (q := 9) (v := (iZ ((pm t : Int)))) C fb_X5_25 dX5_has_6 rfl rfl hP.2.1 (by have := hP.1; omega) hA.1 ?_
    refine am_icmpZ_ge (q := 12) (tgt := 22) C dX5_has_9 (by decide) rfl hp ⟨by omega, by omega⟩ (fun h2 => ?_) (fun h2 => ?_)
    · refine am_iconst (q := 23) (v := iZ 0) C dX5_has_22 rfl rfl ?_
      refine am_zretB (b := false) C T dX5_has_23 rfl (Nat.le_refl _) (Nat.le_refl _) rfl ⟨_, rfl, ?_⟩
      refine ⟨?_, rfl⟩
      first | (rw [if_pos (by omega)]; rfl) | (rw [if_neg (by omega)]; rfl)
    · refine am_iload_n (q := 13) C dX5_has_12 rfl rfl ?_
      refine am_bipush (q := 15) (v := iZ 6) C dX5_has_13 rfl rfl ?_
      refine am_icmpZ_ge (q := 18) (tgt := 22) C dX5_has_15 (by decide) rfl hp ⟨by omega, by omega⟩ (fun h3 => ?_) (fun h3 => ?_)
      · refine am_iconst (q := 23) (v := iZ 0) C dX5_has_22 rfl rfl ?_
        refine am_zretB (b := false) C T dX5_has_23 rfl (Nat.le_refl _) (Nat.le_refl _) rfl ⟨_, rfl, ?_⟩
        refine ⟨?_, rfl⟩
        first | (rw [if_pos (by omega)]; rfl) | (rw [if_neg (by omega)]; rfl)
      · refine am_iconst (q := 19) (v := iZ 1) C dX5_has_18 rfl rfl ?_
        refine am_goto (q := 23) C dX5_has_19 (by decide) ?_
        refine am_zretB (b := true) C T dX5_has_23 rfl (Nat.le_refl _) (Nat.le_refl _) rfl ⟨_, rfl, ?_⟩
        refine ⟨?_, rfl⟩
        first | (rw [if_pos (by omega)]; rfl) | (rw [if_neg (by omega)]; rfl)
def bitOf (s k : Nat) : Nat := s / 2 ^ k % 2
theorem bitOf_le (s k : Nat) : bitOf s k ≤ 1 := by unfold bitOf; omega
theorem bit_long {s : Nat} {k : Int} (hs : s < 2 ^ 61) (hk : 0 ≤ k ∧ k < 64) : jushrL (lN s) (iZ k) &&& 1 = lN (bitOf s k.toNat) := by
  rw [jushrL_lN (by omega) hk, wb_a1 (Nat.lt_of_le_of_lt (Nat.div_le_self _ _) (by omega))]
  rfl
/-- what allows says -/
abbrev alw (t : PT) (p k : Int) : Prop := 0 ≤ p ∧ p < pm t ∧ bitOf (ps t p.toNat) k.toNat = 1
set_option maxRecDepth 4000 in
theorem sp_X5_allows {h : Nat} (hP : isP h) {t : PT} (hA : atP h I J t) (hK : okP t) {p k : Int} (hp : rg p) (hk : 0 ≤ k ∧ k < 64) : am_S G mX5_allows 2 0 0 [.ref h, .int (iZ p), .int (iZ k)] (215, kK, kR, I, J) (am_fi (if alw t p k then 1 else 0) (215, kK, kR, I, J)) := by
  have hm := hK.1
  refine am_spec (by decide +kernel) (Nat.le_of_ble_eq_true rfl) (L := [some (.ref h), some (.int (iZ p)), some (.int (iZ k))]) rfl (fun X C T => ?_)
  refine am_aload_n (q := 1) C dX5_allows_0 rfl rfl ?_
  refine am_iload_n (q := 2) C dX5_allows_1 rfl rfl ?_
  refine am_callV (q := 5) (As := [.int (iZ p)]) (rest := []) C mb_X5_has im_X5_has se_X5_has ml_X5_31 cb_5 hP.2.1 (by have := hP.1; omega) dX5_allows_2 rfl (sp_X5_has hP hA hK hp) rfl rfl ⟨by decide, by decide⟩ ⟨Nat.le_refl _, Nat.le_refl _⟩ (by decide) (am_rie ?_)
  refine am_ifB_eq (q := 8) (tgt := 27) C dX5_allows_5 (by decide) rfl (fun h1 => ?_) (fun h1 => ?_)
  · refine am_iconst (q := 28) (v := iZ 0) C dX5_allows_27 rfl rfl ?_
    refine am_zretB (b := false) C T dX5_allows_28 rfl (Nat.le_refl _) (Nat.le_refl _) rfl ⟨_, rfl, ?_⟩
    refine ⟨?_, rfl⟩
    first | (rw [if_pos ⟨by omega, by omega, by omega⟩]; rfl) | (rw [if_neg (fun ⟨z1, z2, z3⟩ => by omega)]; rfl) | (rw [if_neg (fun z => h1 ⟨z.1, z.2.1⟩)]; rfl)
  · refine am_aload_n (q := 9) C dX5_allows_8 rfl rfl ?_
    refine am_getR (q := 12) C fb_X5_21 dX5_allows_9 rfl rfl hP.2.1 (by have := hP.1; omega) hP.2.2.2.2.2.2.2.2.2 ?_
    refine am_iload_n (q := 13) C dX5_allows_12 rfl rfl ?_
    refine am_laloadZ (q := 14) p.toNat C dX5_allows_13 rfl hP.2.2.2.2.2.1 (by have := hP.1; omega) (by omega) (by omega) (by decide) ?_
    refine am_longE (y := (lN (ps t p.toNat))) (hA.2 p.toNat (by omega)).2.2.2 ?_
    refine am_iload_n (q := 15) C dX5_allows_14 rfl rfl ?_
    refine am_lushr (q := 16) C dX5_allows_15 rfl ?_
    refine am_lconst (q := 17) (v := lN 1) C dX5_allows_16 rfl rfl ?_
    refine am_land (q := 18) C dX5_allows_17 rfl ?_
    refine am_longE (y := (lN (bitOf (ps t p.toNat) k.toNat))) (bit_long (hK.2 p.toNat (by omega)).2.2.2.2.2 hk) ?_
    refine am_lconst (q := 19) (v := lN 1) C dX5_allows_18 rfl rfl ?_
    refine am_lcmp (q := 20) C dX5_allows_19 rfl ?_
    refine am_if_ne (q := 23) (tgt := 27) C dX5_allows_20 (by decide) rfl (fun h2 => ?_) (fun h2 => ?_)
    · have h2 : ¬ (_) := fun z => h2 (((lg_cmp_eq _ _).trans (pk_lEQ (by have := bitOf_le (ps t p.toNat) k.toNat; omega) (by decide))).mpr z)
      refine am_iconst (q := 28) (v := iZ 0) C dX5_allows_27 rfl rfl ?_
      refine am_zretB (b := false) C T dX5_allows_28 rfl (Nat.le_refl _) (Nat.le_refl _) rfl ⟨_, rfl, ?_⟩
      refine ⟨?_, rfl⟩
      first | (rw [if_pos ⟨by omega, by omega, by omega⟩]; rfl) | (rw [if_neg (fun ⟨z1, z2, z3⟩ => by omega)]; rfl) | (rw [if_neg (fun z => h1 ⟨z.1, z.2.1⟩)]; rfl)
    · have h2 := ((lg_cmp_eq _ _).trans (pk_lEQ (by have := bitOf_le (ps t p.toNat) k.toNat; omega) (by decide))).mp h2
      refine am_iconst (q := 24) (v := iZ 1) C dX5_allows_23 rfl rfl ?_
      refine am_goto (q := 28) C dX5_allows_24 (by decide) ?_
      refine am_zretB (b := true) C T dX5_allows_28 rfl (Nat.le_refl _) (Nat.le_refl _) rfl ⟨_, rfl, ?_⟩
      refine ⟨?_, rfl⟩
      first | (rw [if_pos ⟨by omega, by omega, by omega⟩]; rfl) | (rw [if_neg (fun ⟨z1, z2, z3⟩ => by omega)]; rfl) | (rw [if_neg (fun z => h1 ⟨z.1, z.2.1⟩)]; rfl)
def sumN (f : Nat → Nat) : Nat → Nat
  | 0 => 0
  | n + 1 => sumN f n + f n
theorem sumN_le (f : Nat → Nat) {c : Nat} : ∀ n, (∀ p, p < n → f p ≤ c) → sumN f n ≤ n * c
  | 0, _ => Nat.zero_le _
  | n + 1, h => by
    have h1 := sumN_le f (c := c) n (fun p hp => h p (by omega))
    have h2 := h n (by omega)
    rw [Nat.succ_mul]
    show sumN f n + f n ≤ _
    omega
set_option maxRecDepth 4000 in
theorem sp_X5_acrossTogether {h : Nat} (hP : isP h) {t : PT} (hA : atP h I J t) (hK : okP t) : am_S G mX5_acrossTogether 1 0 0 [.ref h] (215, kK, kR, I, J) (am_fi (iZ (sumN (pa t) (pm t) : Int)) (215, kK, kR, I, J)) := by
  have hm := hK.1
  refine am_spec (by decide +kernel) (Nat.le_of_ble_eq_true rfl) (L := [some (.ref h), none, none]) rfl (fun X C T => ?_)
  have lp : ∀ (fuel : Nat) (p : Nat), (p ≤ pm t) → (pm t - p) < fuel → am_A G mX5_acrossTogether X (am_rm 1 0 0) 4 [some (.ref h), some (.int (iZ ((sumN (pa t) p : Int)))), some (.int (iZ ((p : Int))))] [] (215, kK, kR, I, J) 0 0 := by
    intro fuel
    induction fuel with
    | zero => intro p hp hf; exact absurd hf (Nat.not_lt_zero _)
    | succ fuel ih =>
      intro p hp hf
      refine am_iload_n (q := 5) C dX5_acrossTogether_4 rfl rfl ?_
      refine am_aload_n (q := 6) C dX5_acrossTogether_5 rfl rfl ?_
      refine am_getIe (q := 9) (v := (iZ ((pm t : Int)))) C fb_X5_25 dX5_acrossTogether_6 rfl rfl hP.2.1 (by have := hP.1; omega) hA.1 ?_
      refine am_icmpZ_ge (q := 12) (tgt := 33) C dX5_acrossTogether_9 (by decide) rfl ⟨by omega, by omega⟩ ⟨by omega, by omega⟩ (fun h1 => ?_) (fun h1 => ?_)
      · refine am_iload_n (q := 34) C dX5_acrossTogether_33 rfl rfl ?_
        refine am_iret C T dX5_acrossTogether_34 rfl (Nat.le_refl _) (Nat.le_refl _) ⟨_, rfl, ?_⟩
        rw [show p = pm t by omega]
        exact ⟨rfl, rfl⟩
      · refine am_iload_n (q := 13) C dX5_acrossTogether_12 rfl rfl ?_
        refine am_bipush (q := 15) (v := iZ 6) C dX5_acrossTogether_13 rfl rfl ?_
        refine am_icmpZ_ge (q := 18) (tgt := 33) C dX5_acrossTogether_15 (by decide) rfl ⟨by omega, by omega⟩ ⟨by omega, by omega⟩ (fun h2 => ?_) (fun h2 => ?_)
        · refine am_iload_n (q := 34) C dX5_acrossTogether_33 rfl rfl ?_
          refine am_iret C T dX5_acrossTogether_34 rfl (Nat.le_refl _) (Nat.le_refl _) ⟨_, rfl, ?_⟩
          rw [show p = pm t by omega]
          exact ⟨rfl, rfl⟩
        · refine am_iload_n (q := 19) C dX5_acrossTogether_18 rfl rfl ?_
          refine am_aload_n (q := 20) C dX5_acrossTogether_19 rfl rfl ?_
          refine am_getR (q := 23) C fb_X5_9 dX5_acrossTogether_20 rfl rfl hP.2.1 (by have := hP.1; omega) hP.2.2.2.2.2.2.1 ?_
          refine am_iload_n (q := 24) C dX5_acrossTogether_23 rfl rfl ?_
          refine am_ialoadZ (q := 25) p C dX5_acrossTogether_24 rfl hP.2.2.1 (by have := hP.1; omega) rfl (by omega) (by decide) ?_
          refine am_intE (y := (iZ ((pa t p : Int)))) (hA.2 p (by omega)).1 ?_
          refine am_iaddZ (q := 26) C dX5_acrossTogether_25 rfl ?_
          refine am_istore_n (q := 27) (L' := [some (.ref h), some (.int (iZ ((sumN (pa t) p : Int) + ((pa t p : Int))))), some (.int (iZ ((p : Int))))]) C dX5_acrossTogether_26 rfl (by decide) rfl rfl ?_
          refine am_iincZ (q := 30) (L' := [some (.ref h), some (.int (iZ ((sumN (pa t) p : Int) + ((pa t p : Int))))), some (.int (iZ (((p + 1 : Nat) : Int))))]) C dX5_acrossTogether_27 rfl rfl (by omega) (by decide) rfl rfl ?_
          refine am_goto (q := 4) C dX5_acrossTogether_30 (by decide) ?_
          exact ih (p + 1) (by omega) (by omega)
  refine am_iconst (q := 1) (v := iZ 0) C dX5_acrossTogether_0 rfl rfl ?_
  refine am_istore_n (q := 2) (L' := [some (.ref h), some (.int (iZ 0)), none]) C dX5_acrossTogether_1 rfl (by decide) rfl rfl ?_
  refine am_iconst (q := 3) (v := iZ 0) C dX5_acrossTogether_2 rfl rfl ?_
  refine am_istore_n (q := 4) (L' := [some (.ref h), some (.int (iZ 0)), some (.int (iZ 0))]) C dX5_acrossTogether_3 rfl (by decide) rfl rfl ?_
  exact lp (pm t + 1) 0 (by omega) (by omega)
set_option maxRecDepth 4000 in
theorem sp_X5_upTogether {h : Nat} (hP : isP h) {t : PT} (hA : atP h I J t) (hK : okP t) : am_S G mX5_upTogether 1 0 0 [.ref h] (215, kK, kR, I, J) (am_fi (iZ (sumN (pb t) (pm t) : Int)) (215, kK, kR, I, J)) := by
  have hm := hK.1
  refine am_spec (by decide +kernel) (Nat.le_of_ble_eq_true rfl) (L := [some (.ref h), none, none]) rfl (fun X C T => ?_)
  have lp : ∀ (fuel : Nat) (p : Nat), (p ≤ pm t) → (pm t - p) < fuel → am_A G mX5_upTogether X (am_rm 1 0 0) 4 [some (.ref h), some (.int (iZ ((sumN (pb t) p : Int)))), some (.int (iZ ((p : Int))))] [] (215, kK, kR, I, J) 0 0 := by
    intro fuel
    induction fuel with
    | zero => intro p hp hf; exact absurd hf (Nat.not_lt_zero _)
    | succ fuel ih =>
      intro p hp hf
      refine am_iload_n (q := 5) C dX5_upTogether_4 rfl rfl ?_
      refine am_aload_n (q := 6) C dX5_upTogether_5 rfl rfl ?_
      refine am_getIe (q := 9) (v := (iZ ((pm t : Int)))) C fb_X5_25 dX5_upTogether_6 rfl rfl hP.2.1 (by have := hP.1; omega) hA.1 ?_
      refine am_icmpZ_ge (q := 12) (tgt := 33) C dX5_upTogether_9 (by decide) rfl ⟨by omega, by omega⟩ ⟨by omega, by omega⟩ (fun h1 => ?_) (fun h1 => ?_)
      · refine am_iload_n (q := 34) C dX5_upTogether_33 rfl rfl ?_
        refine am_iret C T dX5_upTogether_34 rfl (Nat.le_refl _) (Nat.le_refl _) ⟨_, rfl, ?_⟩
        rw [show p = pm t by omega]
        exact ⟨rfl, rfl⟩
      · refine am_iload_n (q := 13) C dX5_upTogether_12 rfl rfl ?_
        refine am_bipush (q := 15) (v := iZ 6) C dX5_upTogether_13 rfl rfl ?_
        refine am_icmpZ_ge (q := 18) (tgt := 33) C dX5_upTogether_15 (by decide) rfl ⟨by omega, by omega⟩ ⟨by omega, by omega⟩ (fun h2 => ?_) (fun h2 => ?_)
        · refine am_iload_n (q := 34) C dX5_upTogether_33 rfl rfl ?_
          refine am_iret C T dX5_upTogether_34 rfl (Nat.le_refl _) (Nat.le_refl _) ⟨_, rfl, ?_⟩
          rw [show p = pm t by omega]
          exact ⟨rfl, rfl⟩
        · refine am_iload_n (q := 19) C dX5_upTogether_18 rfl rfl ?_
          refine am_aload_n (q := 20) C dX5_upTogether_19 rfl rfl ?_
          refine am_getR (q := 23) C fb_X5_15 dX5_upTogether_20 rfl rfl hP.2.1 (by have := hP.1; omega) hP.2.2.2.2.2.2.2.1 ?_
          refine am_iload_n (q := 24) C dX5_upTogether_23 rfl rfl ?_
          refine am_ialoadZ (q := 25) p C dX5_upTogether_24 rfl hP.2.2.2.1 (by have := hP.1; omega) rfl (by omega) (by decide) ?_
          refine am_intE (y := (iZ ((pb t p : Int)))) (hA.2 p (by omega)).2.1 ?_
          refine am_iaddZ (q := 26) C dX5_upTogether_25 rfl ?_
          refine am_istore_n (q := 27) (L' := [some (.ref h), some (.int (iZ ((sumN (pb t) p : Int) + ((pb t p : Int))))), some (.int (iZ ((p : Int))))]) C dX5_upTogether_26 rfl (by decide) rfl rfl ?_
          refine am_iincZ (q := 30) (L' := [some (.ref h), some (.int (iZ ((sumN (pb t) p : Int) + ((pb t p : Int))))), some (.int (iZ (((p + 1 : Nat) : Int))))]) C dX5_upTogether_27 rfl rfl (by omega) (by decide) rfl rfl ?_
          refine am_goto (q := 4) C dX5_upTogether_30 (by decide) ?_
          exact ih (p + 1) (by omega) (by omega)
  refine am_iconst (q := 1) (v := iZ 0) C dX5_upTogether_0 rfl rfl ?_
  refine am_istore_n (q := 2) (L' := [some (.ref h), some (.int (iZ 0)), none]) C dX5_upTogether_1 rfl (by decide) rfl rfl ?_
  refine am_iconst (q := 3) (v := iZ 0) C dX5_upTogether_2 rfl rfl ?_
  refine am_istore_n (q := 4) (L' := [some (.ref h), some (.int (iZ 0)), some (.int (iZ 0))]) C dX5_upTogether_3 rfl (by decide) rfl rfl ?_
  exact lp (pm t + 1) 0 (by omega) (by omega)
