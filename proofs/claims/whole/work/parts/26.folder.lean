variable {G : am_G} {I : Nat → Nat → Int32} {J : Nat → Nat → Int64}
abbrev enC (v : Option Nat) : Int64 := enk (-3) (-16) v
theorem lN_ne_m3 {a : Nat} (h : a < 2 ^ 63) : lN a ≠ (-3) := by
  intro e
  have := congrArg Int64.toInt e
  rw [pk_lT h] at this
  have e3 : (-3 : Int64).toInt = -3 := by decide
  omega
theorem lN_ne_m16 {a : Nat} (h : a < 2 ^ 63) : lN a ≠ (-16) := by
  intro e
  have := congrArg Int64.toInt e
  rw [pk_lT h] at this
  have e3 : (-16 : Int64).toInt = -16 := by decide
  omega
theorem enC_none : enC none = -3 := rfl
theorem enC_lt {a : Nat} (h : a < 2 ^ 63) : enC (some a) = lN a := by show (if _ then _ else _) = _; rw [if_pos h]
theorem enC_ge {a : Nat} (h : ¬ a < 2 ^ 63) : enC (some a) = -16 := by show (if _ then _ else _) = _; rw [if_neg h]
theorem enC_some (a : Nat) : enC (some a) ≠ -3 := by
  by_cases h : a < 2 ^ 63
  · rw [enC_lt h]; exact lN_ne_m3 h
  · rw [enC_ge h]; decide
theorem none_of {v : Option Nat} (h : enC v = -3) : v = none := by
  rcases v with _ | a
  · rfl
  · exact absurd h (enC_some a)
theorem lN_pos {b : Nat} (h : b < 2 ^ 63) (h1 : 1 ≤ b) : lN b ≠ 0 := by
  intro e
  have := (pk_lEQ h (show 0 < 2 ^ 63 by decide)).mp e
  omega
set_option maxRecDepth 4000 in
theorem sp_fillJ {h len : Nat} (hk : kK h = (21, len)) (hh : h < 215) (hl : len < 2147483648) {v : Int64} : am_S G mJ7_fill_d0a16 1 0 0 [.ref h, .long v] (215, kK, kR, I, J) (am_qv (fun w' => ∃ J' : Nat → Nat → Int64, w' = (215, kK, kR, I, J') ∧ (∀ x, x ≠ h → J' x = J x) ∧ ∀ k, k < len → J' h k = v)) := by
  refine am_spec (plainFor_of_name (by decide +kernel)) (Nat.le_of_ble_eq_true rfl) (L := [some (.ref h), some (.long v), none, none, none]) rfl (fun X C T => ?_)
  have lp : ∀ (fuel : Nat) (k : Nat) (J1 : Nat → Nat → Int64), (k ≤ len) → (∀ x, x ≠ h → J1 x = J x) → (∀ j, j < k → J1 h j = v) → (len - k) < fuel → am_A G mJ7_fill_d0a16 X (am_rm 1 0 0) 6 [some (.ref h), some (.long v), none, some (.int (iZ (k : Int))), some (.int (iZ (len : Int)))] [] (215, kK, kR, I, J1) 0 0 := by
    intro fuel
    induction fuel with
    | zero => intro k J1 hkl hJ hv hf; exact absurd hf (Nat.not_lt_zero _)
    | succ fuel ih =>
      intro k J1 hkl hJ hv hf
      refine am_iload_n (q := 7) C dJ7_fill_d0a16_6 rfl rfl ?_
      refine am_iload (q := 9) C dJ7_fill_d0a16_7 rfl rfl ?_
      refine am_icmpZ_ge (q := 12) (tgt := 22) C dJ7_fill_d0a16_9 (by decide) rfl ⟨by omega, by omega⟩ ⟨by omega, by omega⟩ (fun h1 => ?_) (fun h1 => ?_)
      · refine am_vret C T dJ7_fill_d0a16_22 rfl (Nat.le_refl _) (Nat.le_refl _) ⟨rfl, ?_⟩
        exact ⟨_, rfl, hJ, fun j hj => hv j (by omega)⟩
      · refine am_aload_n (q := 13) C dJ7_fill_d0a16_12 rfl rfl ?_
        refine am_iload_n (q := 14) C dJ7_fill_d0a16_13 rfl rfl ?_
        refine am_lload_n (q := 15) C dJ7_fill_d0a16_14 rfl rfl ?_
        refine am_lastoreZ (q := 16) k C dJ7_fill_d0a16_15 rfl hk hh rfl (by omega) hl ?_
        refine am_iincZ (q := 19) (L' := [some (.ref h), some (.long v), none, some (.int (iZ ((k + 1 : Nat) : Int))), some (.int (iZ (len : Int)))]) C dJ7_fill_d0a16_16 rfl rfl (by omega) (by decide) rfl rfl ?_
        refine am_goto (q := 6) C dJ7_fill_d0a16_19 (by decide) ?_
        exact ih (k + 1) _ (by omega) (fun x hx => by rw [am_up_row _ _ _ _ hx]; exact hJ x hx) (fun j hj => by
          by_cases e : j = k
          · subst e; exact am_up_eq _ _ _ _
          · rw [am_up_ne _ _ _ _ (Or.inr e)]; exact hv j (by omega)) (by omega)
  refine am_iconst (q := 1) (v := iZ 0) C dJ7_fill_d0a16_0 rfl rfl ?_
  refine am_istore_n (q := 2) (L' := [some (.ref h), some (.long v), none, some (.int (iZ 0)), none]) C dJ7_fill_d0a16_1 rfl (by decide) rfl rfl ?_
  refine am_aload_n (q := 3) C dJ7_fill_d0a16_2 rfl rfl ?_
  refine am_alen (q := 4) (t := 1) (v := iZ (len : Int)) C dJ7_fill_d0a16_3 rfl hk (by decide) hh (by rw [← iZ_nI]; rfl) ?_
  refine am_istore (q := 6) (L' := [some (.ref h), some (.long v), none, some (.int (iZ 0)), some (.int (iZ (len : Int)))]) C dJ7_fill_d0a16_4 rfl (by decide) rfl rfl ?_
  exact lp (len + 1) 0 J (by omega) (fun x _ => rfl) (fun j hj => absurd hj (Nat.not_lt_zero _)) (by omega)
set_option maxRecDepth 4000 in
theorem sp_maxL {a b : Nat} (ha : a < 2 ^ 63) (hb : b < 2 ^ 63) : am_S G mJ9_max_f86c9 1 0 0 [.long (lN a), .long (lN b)] (215, kK, kR, I, J) (am_fl (lN (max a b)) (215, kK, kR, I, J)) := by
  refine am_spec (by decide +kernel) (Nat.le_of_ble_eq_true rfl) (L := [some (.long (lN a)), none, some (.long (lN b)), none]) rfl (fun X C T => ?_)
  refine am_lload_n (q := 1) C dJ9_max_f86c9_0 rfl rfl ?_
  refine am_lload_n (q := 2) C dJ9_max_f86c9_1 rfl rfl ?_
  refine am_lcmp (q := 3) C dJ9_max_f86c9_2 rfl ?_
  refine am_if_lt (q := 6) (tgt := 10) C dJ9_max_f86c9_3 (by decide) rfl (fun c1 => ?_) (fun c1 => ?_)
  · have c1 := ((lg_cmp_lt _ _).trans (pk_lLT ha hb)).mp c1
    refine am_lload_n (q := 11) C dJ9_max_f86c9_10 rfl rfl ?_
    refine am_lret C T dJ9_max_f86c9_11 rfl (Nat.le_refl _) (Nat.le_refl _) ⟨_, rfl, ?_⟩
    exact ⟨congrArg lN (by omega), rfl⟩
  · have c1 : ¬ (_) := fun z => c1 (((lg_cmp_lt _ _).trans (pk_lLT ha hb)).mpr z)
    refine am_lload_n (q := 7) C dJ9_max_f86c9_6 rfl rfl ?_
    refine am_goto (q := 11) C dJ9_max_f86c9_7 (by decide) ?_
    refine am_lret C T dJ9_max_f86c9_11 rfl (Nat.le_refl _) (Nat.le_refl _) ⟨_, rfl, ?_⟩
    exact ⟨congrArg lN (by omega), rfl⟩
set_option maxRecDepth 4000 in
theorem sp_minL {a b : Nat} (ha : a < 2 ^ 63) (hb : b < 2 ^ 63) : am_S G mJ9_min_f86c9 1 0 0 [.long (lN a), .long (lN b)] (215, kK, kR, I, J) (am_fl (lN (min a b)) (215, kK, kR, I, J)) := by
  refine am_spec (by decide +kernel) (Nat.le_of_ble_eq_true rfl) (L := [some (.long (lN a)), none, some (.long (lN b)), none]) rfl (fun X C T => ?_)
  refine am_lload_n (q := 1) C dJ9_min_f86c9_0 rfl rfl ?_
  refine am_lload_n (q := 2) C dJ9_min_f86c9_1 rfl rfl ?_
  refine am_lcmp (q := 3) C dJ9_min_f86c9_2 rfl ?_
  refine am_if_gt (q := 6) (tgt := 10) C dJ9_min_f86c9_3 (by decide) rfl (fun c1 => ?_) (fun c1 => ?_)
  · have c1 := ((lg_cmp_gt _ _).trans (pk_lLT hb ha)).mp c1
    refine am_lload_n (q := 11) C dJ9_min_f86c9_10 rfl rfl ?_
    refine am_lret C T dJ9_min_f86c9_11 rfl (Nat.le_refl _) (Nat.le_refl _) ⟨_, rfl, ?_⟩
    exact ⟨congrArg lN (by omega), rfl⟩
  · have c1 : ¬ (_) := fun z => c1 (((lg_cmp_gt _ _).trans (pk_lLT hb ha)).mpr z)
    refine am_lload_n (q := 7) C dJ9_min_f86c9_6 rfl rfl ?_
    refine am_goto (q := 11) C dJ9_min_f86c9_7 (by decide) ?_
    refine am_lret C T dJ9_min_f86c9_11 rfl (Nat.le_refl _) (Nat.le_refl _) ⟨_, rfl, ?_⟩
    exact ⟨congrArg lN (by omega), rfl⟩
set_option maxRecDepth 4000 in
theorem pr_A {a b : Nat} (ha1 : 1 ≤ a) (hb1 : 1 ≤ b) (ha : a < 2 ^ 63) (hb : b < 2 ^ 63) : am_S G mX2_product 1 0 0 [.long (lN a), .long (lN b)] (215, kK, kR, I, J) (am_fl (enC (some (a * b))) (215, kK, kR, I, J)) := by
  refine am_spec (plainFor_of_name (by decide +kernel)) (Nat.le_of_ble_eq_true rfl) (L := [some (.long (lN a)), none, some (.long (lN b)), none]) rfl (fun X C T => ?_)
  refine am_lload_n (q := 1) C dX2_product_0 rfl rfl ?_
  refine am_ldc2 (q := 4) C dX2_product_1 rfl ck_X2_72 ?_
  refine am_lcmp (q := 5) C dX2_product_4 rfl ?_
  refine am_if_eq (q := 8) (tgt := 16) C dX2_product_5 (by decide) rfl (fun c1 => ?_) (fun c1 => ?_)
  · have c1 := (lg_cmp_eq (lN a) (-16)).mp c1; exact absurd c1 (lN_ne_m16 ha)
  · have c1 : ¬ (_) := fun z => c1 ((lg_cmp_eq (lN a) (-16)).mpr z)
    refine am_lload_n (q := 9) C dX2_product_8 rfl rfl ?_
    refine am_ldc2 (q := 12) C dX2_product_9 rfl ck_X2_72 ?_
    refine am_lcmp (q := 13) C dX2_product_12 rfl ?_
    refine am_if_ne (q := 16) (tgt := 20) C dX2_product_13 (by decide) rfl (fun c2 => ?_) (fun c2 => ?_)
    · have c2 : ¬ (_) := fun z => c2 ((lg_cmp_eq (lN b) (-16)).mpr z)
      refine am_lload_n (q := 21) C dX2_product_20 rfl rfl ?_
      refine am_lconst (q := 22) (v := lN 0) C dX2_product_21 rfl rfl ?_
      refine am_lcmp (q := 23) C dX2_product_22 rfl ?_
      refine am_if_le (q := 26) (tgt := 42) C dX2_product_23 (by decide) rfl (fun c3 => ?_) (fun c3 => ?_)
      · have c3 := ((lg_cmp_le _ _).trans (pk_lLE hb (by decide))).mp c3; exact absurd c3 (by omega)
      · have c3 : ¬ (_) := fun z => c3 (((lg_cmp_le _ _).trans (pk_lLE hb (by decide))).mpr z)
        refine am_lload_n (q := 27) C dX2_product_26 rfl rfl ?_
        refine am_ldc2 (q := 30) C dX2_product_27 rfl ck_X2_74 ?_
        refine am_longE (y := lN 9223372036854775807) rfl ?_
        refine am_lload_n (q := 31) C dX2_product_30 rfl rfl ?_
        refine am_ldiv (q := 32) C dX2_product_31 rfl (lN_pos hb hb1) ?_
        refine am_longE (y := (lN (9223372036854775807 / b))) (pk_lDiv (by decide) hb1 hb) ?_
        refine am_lcmp (q := 33) C dX2_product_32 rfl ?_
        refine am_if_le (q := 36) (tgt := 42) C dX2_product_33 (by decide) rfl (fun c4 => ?_) (fun c4 => ?_)
        · have c4 := ((lg_cmp_le _ _).trans (pk_lLE ha (by have := Nat.div_le_self 9223372036854775807 b; omega))).mp c4
          refine am_lload_n (q := 43) C dX2_product_42 rfl rfl ?_
          refine am_lload_n (q := 44) C dX2_product_43 rfl rfl ?_
          refine am_lmul (q := 45) C dX2_product_44 rfl ?_
          refine am_longE (lN_mul _ _) ?_
          refine am_lret C T dX2_product_45 rfl (Nat.le_refl _) (Nat.le_refl _) ⟨_, rfl, ?_⟩
          refine ⟨?_, rfl⟩
          rw [enC_lt (by have := (Nat.le_div_iff_mul_le (show 0 < b by omega)).mp (show a ≤ 9223372036854775807 / b by omega); omega)]
        · have c4 : ¬ (_) := fun z => c4 (((lg_cmp_le _ _).trans (pk_lLE ha (by have := Nat.div_le_self 9223372036854775807 b; omega))).mpr z)
          refine am_ldc2 (q := 39) C dX2_product_36 rfl ck_X2_72 ?_
          refine am_goto (q := 45) C dX2_product_39 (by decide) ?_
          refine am_lret C T dX2_product_45 rfl (Nat.le_refl _) (Nat.le_refl _) ⟨_, rfl, ?_⟩
          refine ⟨?_, rfl⟩
          rw [enC_ge (fun z => c4 ((Nat.le_div_iff_mul_le hb1).mpr (Nat.le_of_lt_succ z)))]
    · have c2 := (lg_cmp_eq (lN b) (-16)).mp c2; exact absurd c2 (lN_ne_m16 hb)
set_option maxRecDepth 4000 in
theorem pr_B {v : Int64} : am_S G mX2_product 1 0 0 [.long (-16), .long v] (215, kK, kR, I, J) (am_fl (-16) (215, kK, kR, I, J)) := by
  refine am_spec (plainFor_of_name (by decide +kernel)) (Nat.le_of_ble_eq_true rfl) (L := [some (.long (-16)), none, some (.long v), none]) rfl (fun X C T => ?_)
  refine am_lload_n (q := 1) C dX2_product_0 rfl rfl ?_
  refine am_ldc2 (q := 4) C dX2_product_1 rfl ck_X2_72 ?_
  refine am_lcmp (q := 5) C dX2_product_4 rfl ?_
  refine am_if_eq (q := 8) (tgt := 16) C dX2_product_5 (by decide) rfl (fun c1 => ?_) (fun c1 => ?_)
  · have c1 := (lg_cmp_eq (-16) (-16)).mp c1
    refine am_ldc2 (q := 19) C dX2_product_16 rfl ck_X2_72 ?_
    refine am_lret C T dX2_product_19 rfl (Nat.le_refl _) (Nat.le_refl _) ⟨_, rfl, ?_⟩
    exact ⟨rfl, rfl⟩
  · have c1 : ¬ (_) := fun z => c1 ((lg_cmp_eq (-16) (-16)).mpr z); exact absurd rfl c1
set_option maxRecDepth 4000 in
theorem pr_C {a : Nat} (ha : a < 2 ^ 63) : am_S G mX2_product 1 0 0 [.long (lN a), .long (-16)] (215, kK, kR, I, J) (am_fl (-16) (215, kK, kR, I, J)) := by
  refine am_spec (plainFor_of_name (by decide +kernel)) (Nat.le_of_ble_eq_true rfl) (L := [some (.long (lN a)), none, some (.long (-16)), none]) rfl (fun X C T => ?_)
  refine am_lload_n (q := 1) C dX2_product_0 rfl rfl ?_
  refine am_ldc2 (q := 4) C dX2_product_1 rfl ck_X2_72 ?_
  refine am_lcmp (q := 5) C dX2_product_4 rfl ?_
  refine am_if_eq (q := 8) (tgt := 16) C dX2_product_5 (by decide) rfl (fun c1 => ?_) (fun c1 => ?_)
  · have c1 := (lg_cmp_eq (lN a) (-16)).mp c1; exact absurd c1 (lN_ne_m16 ha)
  · have c1 : ¬ (_) := fun z => c1 ((lg_cmp_eq (lN a) (-16)).mpr z)
    refine am_lload_n (q := 9) C dX2_product_8 rfl rfl ?_
    refine am_ldc2 (q := 12) C dX2_product_9 rfl ck_X2_72 ?_
    refine am_lcmp (q := 13) C dX2_product_12 rfl ?_
    refine am_if_ne (q := 16) (tgt := 20) C dX2_product_13 (by decide) rfl (fun c2 => ?_) (fun c2 => ?_)
    · have c2 : ¬ (_) := fun z => c2 ((lg_cmp_eq (-16) (-16)).mpr z); exact absurd rfl c2
    · have c2 := (lg_cmp_eq (-16) (-16)).mp c2
      refine am_ldc2 (q := 19) C dX2_product_16 rfl ck_X2_72 ?_
      refine am_lret C T dX2_product_19 rfl (Nat.le_refl _) (Nat.le_refl _) ⟨_, rfl, ?_⟩
      exact ⟨rfl, rfl⟩
theorem sp_X2_product {a b : Nat} (ha : 1 ≤ a) (hb : 1 ≤ b) : am_S G mX2_product 1 0 0 [.long (enC (some a)), .long (enC (some b))] (215, kK, kR, I, J) (am_fl (enC (some (a * b))) (215, kK, kR, I, J)) := by
  by_cases h1 : a < 2 ^ 63
  · rw [enC_lt h1]
    by_cases h2 : b < 2 ^ 63
    · rw [enC_lt h2]; exact pr_A ha hb h1 h2
    · rw [enC_ge h2, enC_ge (a := a * b) (by have := Nat.mul_le_mul ha (Nat.le_refl b); omega)]; exact pr_C h1
  · rw [enC_ge h1, enC_ge (a := a * b) (by have := Nat.mul_le_mul (Nat.le_refl a) hb; omega)]; exact pr_B
set_option maxRecDepth 4000 in
theorem jn_1 {w : Nat} (hw : w ≤ 3) {v : Int64} : am_S G mX2_joined 2 0 0 [.int (iZ (w : Int)), .long (-3), .long v] (215, kK, kR, I, J) (am_fl v (215, kK, kR, I, J)) := by
  refine am_spec (plainFor_of_name (by decide +kernel)) (Nat.le_of_ble_eq_true rfl) (L := [some (.int (iZ (w : Int))), some (.long (-3)), none, some (.long v), none]) rfl (fun X C T => ?_)
  refine am_lload_n (q := 1) C dX2_joined_0 rfl rfl ?_
  refine am_ldc2 (q := 4) C dX2_joined_1 rfl ck_X2_15 ?_
  refine am_lcmp (q := 5) C dX2_joined_4 rfl ?_
  refine am_if_ne (q := 8) (tgt := 10) C dX2_joined_5 (by decide) rfl (fun c1 => ?_) (fun c1 => ?_)
  · have c1 : ¬ (_) := fun z => c1 ((lg_cmp_eq (-3) (-3)).mpr z); exact absurd rfl c1
  · have c1 := (lg_cmp_eq (-3) (-3)).mp c1
    refine am_lload_n (q := 9) C dX2_joined_8 rfl rfl ?_
    refine am_lret C T dX2_joined_9 rfl (Nat.le_refl _) (Nat.le_refl _) ⟨_, rfl, ?_⟩
    exact ⟨rfl, rfl⟩
set_option maxRecDepth 4000 in
theorem jn_2 {w : Nat} (hw : w ≤ 3) (h2 : w = 2) {a b : Nat} (ha : a < 2 ^ 63) (hb : b < 2 ^ 63) : am_S G mX2_joined 2 0 0 [.int (iZ (w : Int)), .long (lN a), .long (lN b)] (215, kK, kR, I, J) (am_fl (lN (min a b)) (215, kK, kR, I, J)) := by
  refine am_spec (plainFor_of_name (by decide +kernel)) (Nat.le_of_ble_eq_true rfl) (L := [some (.int (iZ (w : Int))), some (.long (lN a)), none, some (.long (lN b)), none]) rfl (fun X C T => ?_)
  refine am_lload_n (q := 1) C dX2_joined_0 rfl rfl ?_
  refine am_ldc2 (q := 4) C dX2_joined_1 rfl ck_X2_15 ?_
  refine am_lcmp (q := 5) C dX2_joined_4 rfl ?_
  refine am_if_ne (q := 8) (tgt := 10) C dX2_joined_5 (by decide) rfl (fun c1 => ?_) (fun c1 => ?_)
  · have c1 : ¬ (_) := fun z => c1 ((lg_cmp_eq (lN a) (-3)).mpr z)
    refine am_iload_n (q := 11) C dX2_joined_10 rfl rfl ?_
    refine am_iconst (q := 12) (v := iZ 2) C dX2_joined_11 rfl rfl ?_
    refine am_icmpZ_ne (q := 15) (tgt := 21) C dX2_joined_12 (by decide) rfl ⟨by omega, by omega⟩ ⟨by omega, by omega⟩ (fun c2 => ?_) (fun c2 => ?_)
    · omega
    · refine am_lload_n (q := 16) C dX2_joined_15 rfl rfl ?_
      refine am_lload_n (q := 17) C dX2_joined_16 rfl rfl ?_
      refine am_callS (q := 20) (As := [.long (lN a), .long (lN b)]) (rest := []) C mb_J9_min_f86c9 st_J9_min_f86c9 ml_X2_67 dX2_joined_17 rfl (sp_minL ha hb) rfl rfl ⟨by decide, by decide⟩ ⟨Nat.le_refl _, Nat.le_refl _⟩ (Nat.le_of_ble_eq_true rfl) (am_rle ?_)
      refine am_lret C T dX2_joined_20 rfl (Nat.le_refl _) (Nat.le_refl _) ⟨_, rfl, ?_⟩
      exact ⟨rfl, rfl⟩
  · have c1 := (lg_cmp_eq (lN a) (-3)).mp c1; exact absurd c1 (lN_ne_m3 ha)
set_option maxRecDepth 4000 in
theorem jn_3 {w : Nat} (hw : w ≤ 3) (h2 : w ≠ 2) {v : Int64} : am_S G mX2_joined 2 0 0 [.int (iZ (w : Int)), .long (-16), .long v] (215, kK, kR, I, J) (am_fl (-16) (215, kK, kR, I, J)) := by
  refine am_spec (plainFor_of_name (by decide +kernel)) (Nat.le_of_ble_eq_true rfl) (L := [some (.int (iZ (w : Int))), some (.long (-16)), none, some (.long v), none]) rfl (fun X C T => ?_)
  refine am_lload_n (q := 1) C dX2_joined_0 rfl rfl ?_
  refine am_ldc2 (q := 4) C dX2_joined_1 rfl ck_X2_15 ?_
  refine am_lcmp (q := 5) C dX2_joined_4 rfl ?_
  refine am_if_ne (q := 8) (tgt := 10) C dX2_joined_5 (by decide) rfl (fun c1 => ?_) (fun c1 => ?_)
  · have c1 : ¬ (_) := fun z => c1 ((lg_cmp_eq (-16) (-3)).mpr z)
    refine am_iload_n (q := 11) C dX2_joined_10 rfl rfl ?_
    refine am_iconst (q := 12) (v := iZ 2) C dX2_joined_11 rfl rfl ?_
    refine am_icmpZ_ne (q := 15) (tgt := 21) C dX2_joined_12 (by decide) rfl ⟨by omega, by omega⟩ ⟨by omega, by omega⟩ (fun c2 => ?_) (fun c2 => ?_)
    · refine am_lload_n (q := 22) C dX2_joined_21 rfl rfl ?_
      refine am_ldc2 (q := 25) C dX2_joined_22 rfl ck_X2_72 ?_
      refine am_lcmp (q := 26) C dX2_joined_25 rfl ?_
      refine am_if_eq (q := 29) (tgt := 37) C dX2_joined_26 (by decide) rfl (fun c3 => ?_) (fun c3 => ?_)
      · have c3 := (lg_cmp_eq (-16) (-16)).mp c3
        refine am_ldc2 (q := 40) C dX2_joined_37 rfl ck_X2_72 ?_
        refine am_lret C T dX2_joined_40 rfl (Nat.le_refl _) (Nat.le_refl _) ⟨_, rfl, ?_⟩
        exact ⟨rfl, rfl⟩
      · have c3 : ¬ (_) := fun z => c3 ((lg_cmp_eq (-16) (-16)).mpr z); exact absurd rfl c3
    · omega
  · have c1 := (lg_cmp_eq (-16) (-3)).mp c1; exact absurd c1 (by decide)
set_option maxRecDepth 4000 in
theorem jn_4 {w : Nat} (hw : w ≤ 3) (h2 : w ≠ 2) {a : Nat} (ha : a < 2 ^ 63) : am_S G mX2_joined 2 0 0 [.int (iZ (w : Int)), .long (lN a), .long (-16)] (215, kK, kR, I, J) (am_fl (-16) (215, kK, kR, I, J)) := by
  refine am_spec (plainFor_of_name (by decide +kernel)) (Nat.le_of_ble_eq_true rfl) (L := [some (.int (iZ (w : Int))), some (.long (lN a)), none, some (.long (-16)), none]) rfl (fun X C T => ?_)
  refine am_lload_n (q := 1) C dX2_joined_0 rfl rfl ?_
  refine am_ldc2 (q := 4) C dX2_joined_1 rfl ck_X2_15 ?_
  refine am_lcmp (q := 5) C dX2_joined_4 rfl ?_
  refine am_if_ne (q := 8) (tgt := 10) C dX2_joined_5 (by decide) rfl (fun c1 => ?_) (fun c1 => ?_)
  · have c1 : ¬ (_) := fun z => c1 ((lg_cmp_eq (lN a) (-3)).mpr z)
    refine am_iload_n (q := 11) C dX2_joined_10 rfl rfl ?_
    refine am_iconst (q := 12) (v := iZ 2) C dX2_joined_11 rfl rfl ?_
    refine am_icmpZ_ne (q := 15) (tgt := 21) C dX2_joined_12 (by decide) rfl ⟨by omega, by omega⟩ ⟨by omega, by omega⟩ (fun c2 => ?_) (fun c2 => ?_)
    · refine am_lload_n (q := 22) C dX2_joined_21 rfl rfl ?_
      refine am_ldc2 (q := 25) C dX2_joined_22 rfl ck_X2_72 ?_
      refine am_lcmp (q := 26) C dX2_joined_25 rfl ?_
      refine am_if_eq (q := 29) (tgt := 37) C dX2_joined_26 (by decide) rfl (fun c3 => ?_) (fun c3 => ?_)
      · have c3 := (lg_cmp_eq (lN a) (-16)).mp c3; exact absurd c3 (lN_ne_m16 ha)
      · have c3 : ¬ (_) := fun z => c3 ((lg_cmp_eq (lN a) (-16)).mpr z)
        refine am_lload_n (q := 30) C dX2_joined_29 rfl rfl ?_
        refine am_ldc2 (q := 33) C dX2_joined_30 rfl ck_X2_72 ?_
        refine am_lcmp (q := 34) C dX2_joined_33 rfl ?_
        refine am_if_ne (q := 37) (tgt := 41) C dX2_joined_34 (by decide) rfl (fun c4 => ?_) (fun c4 => ?_)
        · have c4 : ¬ (_) := fun z => c4 ((lg_cmp_eq (-16) (-16)).mpr z); exact absurd rfl c4
        · have c4 := (lg_cmp_eq (-16) (-16)).mp c4
          refine am_ldc2 (q := 40) C dX2_joined_37 rfl ck_X2_72 ?_
          refine am_lret C T dX2_joined_40 rfl (Nat.le_refl _) (Nat.le_refl _) ⟨_, rfl, ?_⟩
          exact ⟨rfl, rfl⟩
    · omega
  · have c1 := (lg_cmp_eq (lN a) (-3)).mp c1; exact absurd c1 (lN_ne_m3 ha)
set_option maxRecDepth 4000 in
theorem jn_5 {w : Nat} (hw : w ≤ 3) (h2 : w = 0) {a b : Nat} (ha : a < 2 ^ 63) (hb : b < 2 ^ 63) : am_S G mX2_joined 2 0 0 [.int (iZ (w : Int)), .long (lN a), .long (lN b)] (215, kK, kR, I, J) (am_fl (enC (some (a + b))) (215, kK, kR, I, J)) := by
  refine am_spec (plainFor_of_name (by decide +kernel)) (Nat.le_of_ble_eq_true rfl) (L := [some (.int (iZ (w : Int))), some (.long (lN a)), none, some (.long (lN b)), none]) rfl (fun X C T => ?_)
  refine am_lload_n (q := 1) C dX2_joined_0 rfl rfl ?_
  refine am_ldc2 (q := 4) C dX2_joined_1 rfl ck_X2_15 ?_
  refine am_lcmp (q := 5) C dX2_joined_4 rfl ?_
  refine am_if_ne (q := 8) (tgt := 10) C dX2_joined_5 (by decide) rfl (fun c1 => ?_) (fun c1 => ?_)
  · have c1 : ¬ (_) := fun z => c1 ((lg_cmp_eq (lN a) (-3)).mpr z)
    refine am_iload_n (q := 11) C dX2_joined_10 rfl rfl ?_
    refine am_iconst (q := 12) (v := iZ 2) C dX2_joined_11 rfl rfl ?_
    refine am_icmpZ_ne (q := 15) (tgt := 21) C dX2_joined_12 (by decide) rfl ⟨by omega, by omega⟩ ⟨by omega, by omega⟩ (fun c2 => ?_) (fun c2 => ?_)
    · refine am_lload_n (q := 22) C dX2_joined_21 rfl rfl ?_
      refine am_ldc2 (q := 25) C dX2_joined_22 rfl ck_X2_72 ?_
      refine am_lcmp (q := 26) C dX2_joined_25 rfl ?_
      refine am_if_eq (q := 29) (tgt := 37) C dX2_joined_26 (by decide) rfl (fun c3 => ?_) (fun c3 => ?_)
      · have c3 := (lg_cmp_eq (lN a) (-16)).mp c3; exact absurd c3 (lN_ne_m16 ha)
      · have c3 : ¬ (_) := fun z => c3 ((lg_cmp_eq (lN a) (-16)).mpr z)
        refine am_lload_n (q := 30) C dX2_joined_29 rfl rfl ?_
        refine am_ldc2 (q := 33) C dX2_joined_30 rfl ck_X2_72 ?_
        refine am_lcmp (q := 34) C dX2_joined_33 rfl ?_
        refine am_if_ne (q := 37) (tgt := 41) C dX2_joined_34 (by decide) rfl (fun c4 => ?_) (fun c4 => ?_)
        · have c4 : ¬ (_) := fun z => c4 ((lg_cmp_eq (lN b) (-16)).mpr z)
          refine am_iload_n (q := 42) C dX2_joined_41 rfl rfl ?_
          refine am_ifZ_ne (q := 45) (tgt := 65) C dX2_joined_42 (by decide) rfl ⟨by omega, by omega⟩ (fun c5 => ?_) (fun c5 => ?_)
          · omega
          · refine am_lload_n (q := 46) C dX2_joined_45 rfl rfl ?_
            refine am_ldc2 (q := 49) C dX2_joined_46 rfl ck_X2_74 ?_
            refine am_longE (y := lN 9223372036854775807) rfl ?_
            refine am_lload_n (q := 50) C dX2_joined_49 rfl rfl ?_
            refine am_lsub (q := 51) C dX2_joined_50 rfl ?_
            refine am_longE (y := (lN (9223372036854775807 - b))) (lN_sub (by omega)) ?_
            refine am_lcmp (q := 52) C dX2_joined_51 rfl ?_
            refine am_if_le (q := 55) (tgt := 61) C dX2_joined_52 (by decide) rfl (fun c6 => ?_) (fun c6 => ?_)
            · have c6 := ((lg_cmp_le _ _).trans (pk_lLE ha (by omega))).mp c6
              refine am_lload_n (q := 62) C dX2_joined_61 rfl rfl ?_
              refine am_lload_n (q := 63) C dX2_joined_62 rfl rfl ?_
              refine am_ladd (q := 64) C dX2_joined_63 rfl ?_
              refine am_longE (lN_add _ _) ?_
              refine am_lret C T dX2_joined_64 rfl (Nat.le_refl _) (Nat.le_refl _) ⟨_, rfl, ?_⟩
              refine ⟨?_, rfl⟩
              rw [enC_lt (by omega)]
            · have c6 : ¬ (_) := fun z => c6 (((lg_cmp_le _ _).trans (pk_lLE ha (by omega))).mpr z)
              refine am_ldc2 (q := 58) C dX2_joined_55 rfl ck_X2_72 ?_
              refine am_goto (q := 64) C dX2_joined_58 (by decide) ?_
              refine am_lret C T dX2_joined_64 rfl (Nat.le_refl _) (Nat.le_refl _) ⟨_, rfl, ?_⟩
              refine ⟨?_, rfl⟩
              rw [enC_ge (by omega)]
        · have c4 := (lg_cmp_eq (lN b) (-16)).mp c4; exact absurd c4 (lN_ne_m16 hb)
    · omega
  · have c1 := (lg_cmp_eq (lN a) (-3)).mp c1; exact absurd c1 (lN_ne_m3 ha)
set_option maxRecDepth 4000 in
theorem jn_6 {w : Nat} (hw : w ≤ 3) (h2 : w ≠ 0 ∧ w ≠ 2) {a b : Nat} (ha : a < 2 ^ 63) (hb : b < 2 ^ 63) : am_S G mX2_joined 2 0 0 [.int (iZ (w : Int)), .long (lN a), .long (lN b)] (215, kK, kR, I, J) (am_fl (lN (max a b)) (215, kK, kR, I, J)) := by
  refine am_spec (plainFor_of_name (by decide +kernel)) (Nat.le_of_ble_eq_true rfl) (L := [some (.int (iZ (w : Int))), some (.long (lN a)), none, some (.long (lN b)), none]) rfl (fun X C T => ?_)
  refine am_lload_n (q := 1) C dX2_joined_0 rfl rfl ?_
  refine am_ldc2 (q := 4) C dX2_joined_1 rfl ck_X2_15 ?_
  refine am_lcmp (q := 5) C dX2_joined_4 rfl ?_
  refine am_if_ne (q := 8) (tgt := 10) C dX2_joined_5 (by decide) rfl (fun c1 => ?_) (fun c1 => ?_)
  · have c1 : ¬ (_) := fun z => c1 ((lg_cmp_eq (lN a) (-3)).mpr z)
    refine am_iload_n (q := 11) C dX2_joined_10 rfl rfl ?_
    refine am_iconst (q := 12) (v := iZ 2) C dX2_joined_11 rfl rfl ?_
    refine am_icmpZ_ne (q := 15) (tgt := 21) C dX2_joined_12 (by decide) rfl ⟨by omega, by omega⟩ ⟨by omega, by omega⟩ (fun c2 => ?_) (fun c2 => ?_)
    · refine am_lload_n (q := 22) C dX2_joined_21 rfl rfl ?_
      refine am_ldc2 (q := 25) C dX2_joined_22 rfl ck_X2_72 ?_
      refine am_lcmp (q := 26) C dX2_joined_25 rfl ?_
      refine am_if_eq (q := 29) (tgt := 37) C dX2_joined_26 (by decide) rfl (fun c3 => ?_) (fun c3 => ?_)
      · have c3 := (lg_cmp_eq (lN a) (-16)).mp c3; exact absurd c3 (lN_ne_m16 ha)
      · have c3 : ¬ (_) := fun z => c3 ((lg_cmp_eq (lN a) (-16)).mpr z)
        refine am_lload_n (q := 30) C dX2_joined_29 rfl rfl ?_
        refine am_ldc2 (q := 33) C dX2_joined_30 rfl ck_X2_72 ?_
        refine am_lcmp (q := 34) C dX2_joined_33 rfl ?_
        refine am_if_ne (q := 37) (tgt := 41) C dX2_joined_34 (by decide) rfl (fun c4 => ?_) (fun c4 => ?_)
        · have c4 : ¬ (_) := fun z => c4 ((lg_cmp_eq (lN b) (-16)).mpr z)
          refine am_iload_n (q := 42) C dX2_joined_41 rfl rfl ?_
          refine am_ifZ_ne (q := 45) (tgt := 65) C dX2_joined_42 (by decide) rfl ⟨by omega, by omega⟩ (fun c5 => ?_) (fun c5 => ?_)
          · refine am_lload_n (q := 66) C dX2_joined_65 rfl rfl ?_
            refine am_lload_n (q := 67) C dX2_joined_66 rfl rfl ?_
            refine am_callS (q := 70) (As := [.long (lN a), .long (lN b)]) (rest := []) C mb_J9_max_f86c9 st_J9_max_f86c9 ml_X2_76 dX2_joined_67 rfl (sp_maxL ha hb) rfl rfl ⟨by decide, by decide⟩ ⟨Nat.le_refl _, Nat.le_refl _⟩ (Nat.le_of_ble_eq_true rfl) (am_rle ?_)
            refine am_lret C T dX2_joined_70 rfl (Nat.le_refl _) (Nat.le_refl _) ⟨_, rfl, ?_⟩
            exact ⟨rfl, rfl⟩
          · omega
        · have c4 := (lg_cmp_eq (lN b) (-16)).mp c4; exact absurd c4 (lN_ne_m16 hb)
    · omega
  · have c1 := (lg_cmp_eq (lN a) (-3)).mp c1; exact absurd c1 (lN_ne_m3 ha)
theorem sp_X2_joined {w : Nat} (hw : w ≤ 3) {u : Option Nat} {b : Nat} (hu : fok w 1000 u) (hb : fok w 1000 (some b)) : am_S G mX2_joined 2 0 0 [.int (iZ (w : Int)), .long (enC u), .long (enC (some b))] (215, kK, kR, I, J) (am_fl (enC (fop w u (some b))) (215, kK, kR, I, J)) := by
  cases u with
  | none => exact jn_1 hw
  | some a =>
    have h1 := hu a rfl
    have h2 := hb b rfl
    show am_S _ _ _ _ _ _ _ (am_fl (enC (some (if w = 0 then a + b else if w = 2 then min a b else max a b))) _)
    by_cases e2 : w = 2
    · rw [if_neg (by omega), if_pos e2, enC_lt (a := a) (by omega), enC_lt (a := b) (by omega), enC_lt (a := min a b) (by omega)]
      exact jn_2 hw e2 (by omega) (by omega)
    · rw [if_neg e2]
      by_cases ea : a < 2 ^ 63
      · rw [enC_lt ea]
        by_cases eb : b < 2 ^ 63
        · rw [enC_lt eb]
          by_cases e0 : w = 0
          · rw [if_pos e0]; exact jn_5 hw e0 ea eb
          · rw [if_neg e0, enC_lt (a := max a b) (by omega)]; exact jn_6 hw ⟨e0, e2⟩ ea eb
        · rw [enC_ge eb, enC_ge (a := if w = 0 then a + b else max a b) (by split <;> omega)]; exact jn_4 hw e2 ea
      · rw [enC_ge ea, enC_ge (a := if w = 0 then a + b else max a b) (by split <;> omega)]; exact jn_3 hw e2
set_option maxRecDepth 4000 in
theorem sp_X2_at {x y : Int} (hx : rg x) (hy : rg y) : am_S G mX2_at 1 0 0 [.ref 178, .int (iZ x), .int (iZ y)] (215, kK, kR, I, J) (am_fl (if 0 ≤ x ∧ x < 31 ∧ 0 ≤ y ∧ y < 31 then J 179 (x.toNat * 31 + y.toNat) else -3) (215, kK, kR, I, J)) := by
  refine am_spec (plainFor_of_name (by decide +kernel)) (Nat.le_of_ble_eq_true rfl) (L := [some (.ref 178), some (.int (iZ x)), some (.int (iZ y))]) rfl (fun X C T => ?_)
  refine am_iload_n (q := 1) C dX2_at_0 rfl rfl ?_
  refine am_ifZ_lt (q := 4) (tgt := 34) C dX2_at_1 (by decide) rfl hx (fun h1 => ?_) (fun h1 => ?_)
  · refine am_ldc2 (q := 37) C dX2_at_34 rfl ck_X2_15 ?_
    refine am_lret C T dX2_at_37 rfl (Nat.le_refl _) (Nat.le_refl _) ⟨_, rfl, ?_⟩
    refine ⟨?_, rfl⟩
    rw [if_neg (by omega)]
  · refine am_iload_n (q := 5) C dX2_at_4 rfl rfl ?_
    refine am_bipush (q := 7) (v := iZ 31) C dX2_at_5 rfl rfl ?_
    refine am_icmpZ_ge (q := 10) (tgt := 34) C dX2_at_7 (by decide) rfl hx ⟨by omega, by omega⟩ (fun h2 => ?_) (fun h2 => ?_)
    · refine am_ldc2 (q := 37) C dX2_at_34 rfl ck_X2_15 ?_
      refine am_lret C T dX2_at_37 rfl (Nat.le_refl _) (Nat.le_refl _) ⟨_, rfl, ?_⟩
      refine ⟨?_, rfl⟩
      rw [if_neg (by omega)]
    · refine am_iload_n (q := 11) C dX2_at_10 rfl rfl ?_
      refine am_ifZ_lt (q := 14) (tgt := 34) C dX2_at_11 (by decide) rfl hy (fun h3 => ?_) (fun h3 => ?_)
      · refine am_ldc2 (q := 37) C dX2_at_34 rfl ck_X2_15 ?_
        refine am_lret C T dX2_at_37 rfl (Nat.le_refl _) (Nat.le_refl _) ⟨_, rfl, ?_⟩
        refine ⟨?_, rfl⟩
        rw [if_neg (by omega)]
      · refine am_iload_n (q := 15) C dX2_at_14 rfl rfl ?_
        refine am_bipush (q := 17) (v := iZ 31) C dX2_at_15 rfl rfl ?_
        refine am_icmpZ_ge (q := 20) (tgt := 34) C dX2_at_17 (by decide) rfl hy ⟨by omega, by omega⟩ (fun h4 => ?_) (fun h4 => ?_)
        · refine am_ldc2 (q := 37) C dX2_at_34 rfl ck_X2_15 ?_
          refine am_lret C T dX2_at_37 rfl (Nat.le_refl _) (Nat.le_refl _) ⟨_, rfl, ?_⟩
          refine ⟨?_, rfl⟩
          rw [if_neg (by omega)]
        · refine am_aload_n (q := 21) C dX2_at_20 rfl rfl ?_
          refine am_getR (q := 24) C fb_X2_11 dX2_at_21 rfl rfl kk_178 (show 178 < 215 by decide) kr_178_0 ?_
          refine am_iload_n (q := 25) C dX2_at_24 rfl rfl ?_
          refine am_bipush (q := 27) (v := iZ 31) C dX2_at_25 rfl rfl ?_
          refine am_imulZ (q := 28) C dX2_at_27 rfl ?_
          refine am_iload_n (q := 29) C dX2_at_28 rfl rfl ?_
          refine am_iaddZ (q := 30) C dX2_at_29 rfl ?_
          refine am_laloadZ (q := 31) (x.toNat * 31 + y.toNat) C dX2_at_30 rfl kk_179 (show 179 < 215 by decide) (by omega) (by omega) (by decide) ?_
          refine am_goto (q := 37) C dX2_at_31 (by decide) ?_
          refine am_lret C T dX2_at_37 rfl (Nat.le_refl _) (Nat.le_refl _) ⟨_, rfl, ?_⟩
          refine ⟨?_, rfl⟩
          rw [if_pos (by omega)]
set_option maxRecDepth 4000 in
theorem sp_X2_set {x y : Nat} (hx : x ≤ 30) (hy : y ≤ 30) {v : Int64} : am_S G mX2_set 1 0 0 [.ref 178, .int (iZ (x : Int)), .int (iZ (y : Int)), .long v] (215, kK, kR, I, J) (am_fv (215, kK, kR, I, (am_up J 179 (x * 31 + y) v))) := by
  refine am_spec (plainFor_of_name (by decide +kernel)) (Nat.le_of_ble_eq_true rfl) (L := [some (.ref 178), some (.int (iZ (x : Int))), some (.int (iZ (y : Int))), some (.long v), none]) rfl (fun X C T => ?_)
  refine am_iload_n (q := 1) C dX2_set_0 rfl rfl ?_
  refine am_ifZ_lt (q := 4) (tgt := 32) C dX2_set_1 (by decide) rfl ⟨by omega, by omega⟩ (fun h1 => ?_) (fun h1 => ?_)
  · refine am_vret C T dX2_set_32 rfl (Nat.le_refl _) (Nat.le_refl _) ⟨rfl, ?_⟩
    exfalso; omega
  · refine am_iload_n (q := 5) C dX2_set_4 rfl rfl ?_
    refine am_bipush (q := 7) (v := iZ 31) C dX2_set_5 rfl rfl ?_
    refine am_icmpZ_ge (q := 10) (tgt := 32) C dX2_set_7 (by decide) rfl ⟨by omega, by omega⟩ ⟨by omega, by omega⟩ (fun h2 => ?_) (fun h2 => ?_)
    · refine am_vret C T dX2_set_32 rfl (Nat.le_refl _) (Nat.le_refl _) ⟨rfl, ?_⟩
      exfalso; omega
    · refine am_iload_n (q := 11) C dX2_set_10 rfl rfl ?_
      refine am_ifZ_lt (q := 14) (tgt := 32) C dX2_set_11 (by decide) rfl ⟨by omega, by omega⟩ (fun h3 => ?_) (fun h3 => ?_)
      · refine am_vret C T dX2_set_32 rfl (Nat.le_refl _) (Nat.le_refl _) ⟨rfl, ?_⟩
        exfalso; omega
      · refine am_iload_n (q := 15) C dX2_set_14 rfl rfl ?_
        refine am_bipush (q := 17) (v := iZ 31) C dX2_set_15 rfl rfl ?_
        refine am_icmpZ_ge (q := 20) (tgt := 32) C dX2_set_17 (by decide) rfl ⟨by omega, by omega⟩ ⟨by omega, by omega⟩ (fun h4 => ?_) (fun h4 => ?_)
        · refine am_vret C T dX2_set_32 rfl (Nat.le_refl _) (Nat.le_refl _) ⟨rfl, ?_⟩
          exfalso; omega
        · refine am_aload_n (q := 21) C dX2_set_20 rfl rfl ?_
          refine am_getR (q := 24) C fb_X2_11 dX2_set_21 rfl rfl kk_178 (show 178 < 215 by decide) kr_178_0 ?_
          refine am_iload_n (q := 25) C dX2_set_24 rfl rfl ?_
          refine am_bipush (q := 27) (v := iZ 31) C dX2_set_25 rfl rfl ?_
          refine am_imulZ (q := 28) C dX2_set_27 rfl ?_
          refine am_iload_n (q := 29) C dX2_set_28 rfl rfl ?_
          refine am_iaddZ (q := 30) C dX2_set_29 rfl ?_
          refine am_lload_n (q := 31) C dX2_set_30 rfl rfl ?_
          refine am_lastoreZ (q := 32) (x * 31 + y) C dX2_set_31 rfl kk_179 (show 179 < 215 by decide) (by omega) (by omega) (by decide) ?_
          refine am_vret C T dX2_set_32 rfl (Nat.le_refl _) (Nat.le_refl _) ⟨rfl, ?_⟩
          rfl
theorem fT_next {w : Nat} {f : Nat → Nat → Option Nat} {s a b c k n : Nat} {x y : Nat} (hn : k + n = 61) (hk : k ≤ 60) (hx : k * a ≤ x) (hy : k * b ≤ y) {acc z r : Option Nat} (hz : z = if bitOf s k = 1 then fac w k (c ^ k) (f (x - k * a) (y - k * b)) else none) (h : fop w acc (if k * a ≤ x ∧ k * b ≤ y then fT w f s a b c n k (x - k * a) (y - k * b) else none) = r) : ∃ n', k + 1 + n' = 61 ∧ fop w (fop w acc z) (if (k + 1) * a ≤ x ∧ (k + 1) * b ≤ y then fT w f s a b c n' (k + 1) (x - (k + 1) * a) (y - (k + 1) * b) else none) = r := by
  obtain ⟨n', rfl⟩ : ∃ n', n = n' + 1 := ⟨n - 1, by omega⟩
  refine ⟨n', by omega, ?_⟩
  rw [if_pos ⟨hx, hy⟩] at h
  rw [← h, fop_a, hz]
  show _ = fop w acc (fop w _ (if _ then _ else _))
  congr 2
  have k1 : (k + 1) * a = k * a + a := Nat.succ_mul _ _
  have k2 : (k + 1) * b = k * b + b := Nat.succ_mul _ _
  by_cases e : a ≤ x - k * a ∧ b ≤ y - k * b
  · rw [if_pos e, if_pos (by omega), show x - (k + 1) * a = x - k * a - a by omega, show y - (k + 1) * b = y - k * b - b by omega]
  · rw [if_neg e, if_neg (by omega)]
theorem fT_done {w : Nat} {f : Nat → Nat → Option Nat} {s a b c k n : Nat} {x y : Nat} (h0 : ¬ (k * a ≤ x ∧ k * b ≤ y) ∨ n = 0) {acc r : Option Nat} (h : fop w acc (if k * a ≤ x ∧ k * b ≤ y then fT w f s a b c n k (x - k * a) (y - k * b) else none) = r) : acc = r := by
  rw [← h]
  by_cases e : k * a ≤ x ∧ k * b ≤ y
  · rw [if_pos e, show n = 0 by omega]; exact (fop_n w acc).symm
  · rw [if_neg e]; exact (fop_n w acc).symm
theorem fok_up {w n m : Nat} {v : Option Nat} (h : fok w n v) (hm : n ≤ m) : fok w m v := fun z hz => ⟨fun e => Nat.le_trans ((h z hz).1 e) hm, (h z hz).2⟩
theorem fok_ac {w n k g z : Nat} (h : fok w n (some z)) (hg : 1 ≤ g) : fok w (n + k) (fac w k g (some z)) := by
  intro v hv
  have hv : (if w = 1 ∨ w = 2 then z + k else z * g) = v := Option.some.inj hv
  have h1 := h z rfl
  by_cases e : w = 1 ∨ w = 2
  · rw [if_pos e] at hv; omega
  · rw [if_neg e] at hv
    have := Nat.mul_le_mul (h1.2 e) hg
    omega
set_option maxRecDepth 4000 in
theorem sp_X2_foldedWith {t : PT} (hA : atP 1 I J t) (hK : okP t) {p w x y : Nat} (hp : p < pm t) (hw : w ≤ 3) (hx : x ≤ 30) (hy : y ≤ 30) {f : Nat → Nat → Option Nat} (hf : ∀ x1 y1, fok w 300 (f x1 y1)) (hT : ∀ x1 y1, x1 ≤ x → y1 ≤ y → J 179 (x1 * 31 + y1) = enC (f x1 y1)) : am_S G mX2_foldedWith 3 0 0 [.ref 178, .int (iZ (p : Int)), .int (iZ (w : Int)), .int (iZ (x : Int)), .int (iZ (y : Int)), .ref 1] (215, kK, kR, I, J) (am_fl (enC (TT w t p f x y)) (215, kK, kR, I, J)) := by
  have hm := hK.1
  obtain ⟨p1, p2, p3, p4, p5, p6⟩ := hK.2 p hp
  refine am_spec (plainFor_of_name (by decide +kernel)) (Nat.le_of_ble_eq_true rfl) (L := [some (.ref 178), some (.int (iZ (p : Int))), some (.int (iZ (w : Int))), some (.int (iZ (x : Int))), some (.int (iZ (y : Int))), some (.ref 1), none, none, none, none, none, none, none, none, none, none]) rfl (fun X C T => ?_)
  have lp : ∀ (fuel k : Nat) (acc : Option Nat), fok w 1000 acc → (∃ n, k + n = 61 ∧ fop w acc (if k * pa t p ≤ x ∧ k * pb t p ≤ y then fT w f (ps t p) (pa t p) (pb t p) (pw t p) n k (x - k * pa t p) (y - k * pb t p) else none) = TT w t p f x y) → 62 - k < fuel → am_A G mX2_foldedWith X (am_rm 3 0 0) 11 [some (.ref 178), some (.int (iZ (p : Int))), some (.int (iZ (w : Int))), some (.int (iZ (x : Int))), some (.int (iZ (y : Int))), some (.ref 1), some (.long (enC acc)), none, some (.long (enC (some (pw t p ^ k)))), none, some (.int (iZ (k : Int))), none, none, none, none, none] [] (215, kK, kR, I, J) 0 0 := by
    intro fuel
    induction fuel with
    | zero => intro k acc ha h hfu; exact absurd hfu (Nat.not_lt_zero _)
    | succ fuel ih =>
      intro k acc ha h hfu
      obtain ⟨n, hn, hs⟩ := h
      have hk61 : k ≤ 61 := by omega
      have q1 := Nat.mul_le_mul hk61 p1
      have q2 := Nat.mul_le_mul hk61 p2
      have e1 : (k : Int) * (pa t p : Int) = ((k * pa t p : Nat) : Int) := by simp
      have e2 : (k : Int) * (pb t p : Int) = ((k * pb t p : Nat) : Int) := by simp
      refine am_iload (q := 13) C dX2_foldedWith_11 rfl rfl ?_
      refine am_bipush (q := 15) (v := iZ 60) C dX2_foldedWith_13 rfl rfl ?_
      refine am_icmpZ_gt (q := 18) (tgt := 166) C dX2_foldedWith_15 (by decide) rfl ⟨by omega, by omega⟩ ⟨by omega, by omega⟩ (fun c1 => ?_) (fun c1 => ?_)
      · refine am_lload (q := 168) C dX2_foldedWith_166 rfl rfl ?_
        refine am_lret C T dX2_foldedWith_168 rfl (Nat.le_refl _) (Nat.le_refl _) ⟨_, rfl, ?_⟩
        refine ⟨congrArg enC (fT_done ?_ hs), rfl⟩
        omega
      · refine am_aload (q := 20) C dX2_foldedWith_18 rfl rfl ?_
        refine am_iload_n (q := 21) C dX2_foldedWith_20 rfl rfl ?_
        refine am_callN (q := 24) (As := [.int (iZ (p : Int))]) (rest := []) C mb_X5_has im_X5_has se_X5_has mn_X2_41 cb_5 kk_1 (show 1 < 215 by decide) dX2_foldedWith_21 rfl (sp_X5_has isP_1 hA hK (p := (p : Int)) ⟨by omega, by omega⟩) rfl rfl ⟨by decide, by decide⟩ ⟨Nat.le_refl _, Nat.le_refl _⟩ (Nat.le_of_ble_eq_true rfl) (am_rie ?_)
        refine am_ifB_eq (q := 27) (tgt := 166) C dX2_foldedWith_24 (by decide) rfl (fun c2 => ?_) (fun c2 => ?_)
        · refine am_lload (q := 168) C dX2_foldedWith_166 rfl rfl ?_
          refine am_lret C T dX2_foldedWith_168 rfl (Nat.le_refl _) (Nat.le_refl _) ⟨_, rfl, ?_⟩
          refine ⟨congrArg enC (fT_done ?_ hs), rfl⟩
          omega
        · refine am_iload_n (q := 28) C dX2_foldedWith_27 rfl rfl ?_
          refine am_iload (q := 30) C dX2_foldedWith_28 rfl rfl ?_
          refine am_aload (q := 32) C dX2_foldedWith_30 rfl rfl ?_
          refine am_getR (q := 35) C fb_X2_45 dX2_foldedWith_32 rfl rfl kk_1 (show 1 < 215 by decide) kr_1_0 ?_
          refine am_iload_n (q := 36) C dX2_foldedWith_35 rfl rfl ?_
          refine am_ialoadZ (q := 37) p C dX2_foldedWith_36 rfl kk_2 (show 2 < 215 by decide) rfl (by omega) (by decide) ?_
          refine am_intE (y := (iZ (pa t p : Int))) ((hA.2 p (by omega)).1) ?_
          refine am_imulZ (q := 38) C dX2_foldedWith_37 rfl ?_
          refine am_isubZ (q := 39) C dX2_foldedWith_38 rfl ?_
          refine am_istore (q := 41) (L' := [some (.ref 178), some (.int (iZ (p : Int))), some (.int (iZ (w : Int))), some (.int (iZ (x : Int))), some (.int (iZ (y : Int))), some (.ref 1), some (.long (enC acc)), none, some (.long (enC (some (pw t p ^ k)))), none, some (.int (iZ (k : Int))), some (.int (iZ ((x : Int) - ((k : Int) * (pa t p : Int))))), none, none, none, none]) C dX2_foldedWith_39 rfl (by decide) rfl rfl ?_
          refine am_iload (q := 43) C dX2_foldedWith_41 rfl rfl ?_
          refine am_iload (q := 45) C dX2_foldedWith_43 rfl rfl ?_
          refine am_aload (q := 47) C dX2_foldedWith_45 rfl rfl ?_
          refine am_getR (q := 50) C fb_X2_49 dX2_foldedWith_47 rfl rfl kk_1 (show 1 < 215 by decide) kr_1_1 ?_
          refine am_iload_n (q := 51) C dX2_foldedWith_50 rfl rfl ?_
          refine am_ialoadZ (q := 52) p C dX2_foldedWith_51 rfl kk_3 (show 3 < 215 by decide) rfl (by omega) (by decide) ?_
          refine am_intE (y := (iZ (pb t p : Int))) ((hA.2 p (by omega)).2.1) ?_
          refine am_imulZ (q := 53) C dX2_foldedWith_52 rfl ?_
          refine am_isubZ (q := 54) C dX2_foldedWith_53 rfl ?_
          refine am_istore (q := 56) (L' := [some (.ref 178), some (.int (iZ (p : Int))), some (.int (iZ (w : Int))), some (.int (iZ (x : Int))), some (.int (iZ (y : Int))), some (.ref 1), some (.long (enC acc)), none, some (.long (enC (some (pw t p ^ k)))), none, some (.int (iZ (k : Int))), some (.int (iZ ((x : Int) - ((k : Int) * (pa t p : Int))))), some (.int (iZ ((y : Int) - ((k : Int) * (pb t p : Int))))), none, none, none]) C dX2_foldedWith_54 rfl (by decide) rfl rfl ?_
          refine am_iload (q := 58) C dX2_foldedWith_56 rfl rfl ?_
          refine am_ifZ_lt (q := 61) (tgt := 166) C dX2_foldedWith_58 (by decide) rfl ⟨by omega, by omega⟩ (fun c3 => ?_) (fun c3 => ?_)
          · refine am_lload (q := 168) C dX2_foldedWith_166 rfl rfl ?_
            refine am_lret C T dX2_foldedWith_168 rfl (Nat.le_refl _) (Nat.le_refl _) ⟨_, rfl, ?_⟩
            refine ⟨congrArg enC (fT_done ?_ hs), rfl⟩
            omega
          · refine am_iload (q := 63) C dX2_foldedWith_61 rfl rfl ?_
            refine am_ifZ_ge (q := 66) (tgt := 69) C dX2_foldedWith_63 (by decide) rfl ⟨by omega, by omega⟩ (fun c4 => ?_) (fun c4 => ?_)
            · refine am_aload_n (q := 70) C dX2_foldedWith_69 rfl rfl ?_
              refine am_iload (q := 72) C dX2_foldedWith_70 rfl rfl ?_
              refine am_iload (q := 74) C dX2_foldedWith_72 rfl rfl ?_
              refine am_callV (q := 77) (As := [.int (iZ ((x : Int) - ((k : Int) * (pa t p : Int)))), .int (iZ ((y : Int) - ((k : Int) * (pb t p : Int))))]) (rest := []) C mb_X2_at im_X2_at se_X2_at ml_X2_37 cb_2 kk_178 (show 178 < 215 by decide) dX2_foldedWith_74 rfl (sp_X2_at (x := (x : Int) - ((k : Int) * (pa t p : Int))) (y := (y : Int) - ((k : Int) * (pb t p : Int))) ⟨by omega, by omega⟩ ⟨by omega, by omega⟩) rfl rfl ⟨by decide, by decide⟩ ⟨Nat.le_refl _, Nat.le_refl _⟩ (Nat.le_of_ble_eq_true rfl) (am_rle ?_)
              refine am_longE (y := enC (f (x - k * pa t p) (y - k * pb t p))) ?_ ?_
              · rw [if_pos (by omega), show ((x : Int) - ((k : Int) * (pa t p : Int))).toNat = x - k * pa t p by omega, show ((y : Int) - ((k : Int) * (pb t p : Int))).toNat = y - k * pb t p by omega]
                exact hT _ _ (by omega) (by omega)
              refine am_lstore (q := 79) (L' := [some (.ref 178), some (.int (iZ (p : Int))), some (.int (iZ (w : Int))), some (.int (iZ (x : Int))), some (.int (iZ (y : Int))), some (.ref 1), some (.long (enC acc)), none, some (.long (enC (some (pw t p ^ k)))), none, some (.int (iZ (k : Int))), some (.int (iZ ((x : Int) - ((k : Int) * (pa t p : Int))))), some (.int (iZ ((y : Int) - ((k : Int) * (pb t p : Int))))), some (.long (enC (f (x - k * pa t p) (y - k * pb t p)))), none, none]) C dX2_foldedWith_77 rfl (by decide) rfl rfl ?_
              refine am_lload (q := 81) C dX2_foldedWith_79 rfl rfl ?_
              refine am_ldc2 (q := 84) C dX2_foldedWith_81 rfl ck_X2_15 ?_
              refine am_lcmp (q := 85) C dX2_foldedWith_84 rfl ?_
              refine am_if_eq (q := 88) (tgt := 145) C dX2_foldedWith_85 (by decide) rfl (fun c5 => ?_) (fun c5 => ?_)
              · have c5 := (lg_cmp_eq (enC (f (x - k * pa t p) (y - k * pb t p))) (-3)).mp c5
                refine am_lload (q := 147) C dX2_foldedWith_145 rfl rfl ?_
                refine am_aload (q := 149) C dX2_foldedWith_147 rfl rfl ?_
                refine am_getR (q := 152) C fb_X2_64 dX2_foldedWith_149 rfl rfl kk_1 (show 1 < 215 by decide) kr_1_2 ?_
                refine am_iload_n (q := 153) C dX2_foldedWith_152 rfl rfl ?_
                refine am_ialoadZ (q := 154) p C dX2_foldedWith_153 rfl kk_4 (show 4 < 215 by decide) rfl (by omega) (by decide) ?_
                refine am_intE (y := (iZ (pw t p : Int))) ((hA.2 p (by omega)).2.2.1) ?_
                refine am_i2lZ (q := 155) C dX2_foldedWith_154 rfl ⟨by omega, by omega⟩ ?_
                refine am_longE (y := (lN (pw t p))) rfl ?_
                refine am_longE (y := enC (some (pw t p))) (enC_lt (by omega)).symm ?_
                refine am_callS (q := 158) (As := [.long (enC (some (pw t p ^ k))), .long (enC (some (pw t p)))]) (rest := []) C mb_X2_product st_X2_product ml_X2_56 dX2_foldedWith_155 rfl (sp_X2_product (a := pw t p ^ k) (b := pw t p) (Nat.one_le_pow _ _ p4) p4) rfl rfl ⟨by decide, by decide⟩ ⟨Nat.le_refl _, Nat.le_refl _⟩ (Nat.le_of_ble_eq_true rfl) (am_rle ?_)
                refine am_longE (y := enC (some (pw t p ^ (k + 1)))) rfl ?_
                refine am_lstore (q := 160) (L' := [some (.ref 178), some (.int (iZ (p : Int))), some (.int (iZ (w : Int))), some (.int (iZ (x : Int))), some (.int (iZ (y : Int))), some (.ref 1), some (.long (enC acc)), none, some (.long (enC (some (pw t p ^ (k + 1))))), none, some (.int (iZ (k : Int))), some (.int (iZ ((x : Int) - ((k : Int) * (pa t p : Int))))), some (.int (iZ ((y : Int) - ((k : Int) * (pb t p : Int))))), some (.long (enC (f (x - k * pa t p) (y - k * pb t p)))), none, none]) C dX2_foldedWith_158 rfl (by decide) rfl rfl ?_
                refine am_iincZ (q := 163) (L' := [some (.ref 178), some (.int (iZ (p : Int))), some (.int (iZ (w : Int))), some (.int (iZ (x : Int))), some (.int (iZ (y : Int))), some (.ref 1), some (.long (enC acc)), none, some (.long (enC (some (pw t p ^ (k + 1))))), none, some (.int (iZ ((k + 1 : Nat) : Int))), some (.int (iZ ((x : Int) - ((k : Int) * (pa t p : Int))))), some (.int (iZ ((y : Int) - ((k : Int) * (pb t p : Int))))), some (.long (enC (f (x - k * pa t p) (y - k * pb t p)))), none, none]) C dX2_foldedWith_160 rfl rfl (by omega) (by decide) rfl rfl ?_
                refine am_goto (q := 11) C dX2_foldedWith_163 (by decide) ?_
                refine am_wkA (L1 := [some (.ref 178), some (.int (iZ (p : Int))), some (.int (iZ (w : Int))), some (.int (iZ (x : Int))), some (.int (iZ (y : Int))), some (.ref 1), some (.long (enC acc)), none, some (.long (enC (some (pw t p ^ (k + 1))))), none, some (.int (iZ ((k + 1 : Nat) : Int))), none, none, none, none, none]) ⟨rfl, ⟨rfl, ⟨rfl, ⟨rfl, ⟨rfl, ⟨rfl, ⟨rfl, ⟨rfl, ⟨rfl, trivial⟩⟩⟩⟩⟩⟩⟩⟩⟩ ?_
                refine ih (k + 1) acc ha ?_ (by omega)
                have := fT_next (z := none) hn (by omega) (by omega) (by omega) ?_ hs
                · rw [fop_n] at this; exact this
                · first | (rw [if_neg (by assumption)]) | (rw [none_of (show enC (f (x - k * pa t p) (y - k * pb t p)) = -3 from by assumption)]; split <;> rfl)
              · have c5 : ¬ (_) := fun z => c5 ((lg_cmp_eq (enC (f (x - k * pa t p) (y - k * pb t p))) (-3)).mpr z)
                obtain ⟨z, hfz0⟩ : ∃ z, f (x - k * pa t p) (y - k * pb t p) = some z := by
                  rcases hv : f (x - k * pa t p) (y - k * pb t p) with _ | z
                  · rw [hv] at c5; exact absurd rfl c5
                  · exact ⟨z, rfl⟩
                have hfz := hf (x - k * pa t p) (y - k * pb t p)
                rw [hfz0] at hfz ⊢
                refine am_aload (q := 90) C dX2_foldedWith_88 rfl rfl ?_
                refine am_iload_n (q := 91) C dX2_foldedWith_90 rfl rfl ?_
                refine am_iload (q := 93) C dX2_foldedWith_91 rfl rfl ?_
                refine am_callN (q := 96) (As := [.int (iZ (p : Int)), .int (iZ (k : Int))]) (rest := []) C mb_X5_allows im_X5_allows se_X5_allows mn_X2_52 cb_5 kk_1 (show 1 < 215 by decide) dX2_foldedWith_93 rfl (sp_X5_allows isP_1 hA hK (p := (p : Int)) (k := (k : Int)) ⟨by omega, by omega⟩ ⟨by omega, by omega⟩) rfl rfl ⟨by decide, by decide⟩ ⟨Nat.le_refl _, Nat.le_refl _⟩ (Nat.le_of_ble_eq_true rfl) (am_rie ?_)
                refine am_intE (alw_ite hp) ?_
                refine am_ifB_eq (q := 99) (tgt := 145) C dX2_foldedWith_96 (by decide) rfl (fun c6 => ?_) (fun c6 => ?_)
                · refine am_lload (q := 147) C dX2_foldedWith_145 rfl rfl ?_
                  refine am_aload (q := 149) C dX2_foldedWith_147 rfl rfl ?_
                  refine am_getR (q := 152) C fb_X2_64 dX2_foldedWith_149 rfl rfl kk_1 (show 1 < 215 by decide) kr_1_2 ?_
                  refine am_iload_n (q := 153) C dX2_foldedWith_152 rfl rfl ?_
                  refine am_ialoadZ (q := 154) p C dX2_foldedWith_153 rfl kk_4 (show 4 < 215 by decide) rfl (by omega) (by decide) ?_
                  refine am_intE (y := (iZ (pw t p : Int))) ((hA.2 p (by omega)).2.2.1) ?_
                  refine am_i2lZ (q := 155) C dX2_foldedWith_154 rfl ⟨by omega, by omega⟩ ?_
                  refine am_longE (y := (lN (pw t p))) rfl ?_
                  refine am_longE (y := enC (some (pw t p))) (enC_lt (by omega)).symm ?_
                  refine am_callS (q := 158) (As := [.long (enC (some (pw t p ^ k))), .long (enC (some (pw t p)))]) (rest := []) C mb_X2_product st_X2_product ml_X2_56 dX2_foldedWith_155 rfl (sp_X2_product (a := pw t p ^ k) (b := pw t p) (Nat.one_le_pow _ _ p4) p4) rfl rfl ⟨by decide, by decide⟩ ⟨Nat.le_refl _, Nat.le_refl _⟩ (Nat.le_of_ble_eq_true rfl) (am_rle ?_)
                  refine am_longE (y := enC (some (pw t p ^ (k + 1)))) rfl ?_
                  refine am_lstore (q := 160) (L' := [some (.ref 178), some (.int (iZ (p : Int))), some (.int (iZ (w : Int))), some (.int (iZ (x : Int))), some (.int (iZ (y : Int))), some (.ref 1), some (.long (enC acc)), none, some (.long (enC (some (pw t p ^ (k + 1))))), none, some (.int (iZ (k : Int))), some (.int (iZ ((x : Int) - ((k : Int) * (pa t p : Int))))), some (.int (iZ ((y : Int) - ((k : Int) * (pb t p : Int))))), some (.long (enC (some z))), none, none]) C dX2_foldedWith_158 rfl (by decide) rfl rfl ?_
                  refine am_iincZ (q := 163) (L' := [some (.ref 178), some (.int (iZ (p : Int))), some (.int (iZ (w : Int))), some (.int (iZ (x : Int))), some (.int (iZ (y : Int))), some (.ref 1), some (.long (enC acc)), none, some (.long (enC (some (pw t p ^ (k + 1))))), none, some (.int (iZ ((k + 1 : Nat) : Int))), some (.int (iZ ((x : Int) - ((k : Int) * (pa t p : Int))))), some (.int (iZ ((y : Int) - ((k : Int) * (pb t p : Int))))), some (.long (enC (some z))), none, none]) C dX2_foldedWith_160 rfl rfl (by omega) (by decide) rfl rfl ?_
                  refine am_goto (q := 11) C dX2_foldedWith_163 (by decide) ?_
                  refine am_wkA (L1 := [some (.ref 178), some (.int (iZ (p : Int))), some (.int (iZ (w : Int))), some (.int (iZ (x : Int))), some (.int (iZ (y : Int))), some (.ref 1), some (.long (enC acc)), none, some (.long (enC (some (pw t p ^ (k + 1))))), none, some (.int (iZ ((k + 1 : Nat) : Int))), none, none, none, none, none]) ⟨rfl, ⟨rfl, ⟨rfl, ⟨rfl, ⟨rfl, ⟨rfl, ⟨rfl, ⟨rfl, ⟨rfl, trivial⟩⟩⟩⟩⟩⟩⟩⟩⟩ ?_
                  refine ih (k + 1) acc ha ?_ (by omega)
                  have := fT_next (z := none) hn (by omega) (by omega) (by omega) ?_ hs
                  · rw [fop_n] at this; exact this
                  · first | (rw [if_neg (by assumption)]) | (rw [none_of (show enC (f (x - k * pa t p) (y - k * pb t p)) = -3 from by assumption)]; split <;> rfl)
                · refine am_iload_n (q := 100) C dX2_foldedWith_99 rfl rfl ?_
                  refine am_iconst (q := 101) (v := iZ 1) C dX2_foldedWith_100 rfl rfl ?_
                  refine am_icmpZ_eq (q := 104) (tgt := 109) C dX2_foldedWith_101 (by decide) rfl ⟨by omega, by omega⟩ ⟨by omega, by omega⟩ (fun c7 => ?_) (fun c7 => ?_)
                  · refine am_iconst (q := 110) (v := iZ 1) C dX2_foldedWith_109 rfl rfl ?_
                    refine am_goto (q := 114) C dX2_foldedWith_110 (by decide) ?_
                    refine am_istore (q := 116) (L' := [some (.ref 178), some (.int (iZ (p : Int))), some (.int (iZ (w : Int))), some (.int (iZ (x : Int))), some (.int (iZ (y : Int))), some (.ref 1), some (.long (enC acc)), none, some (.long (enC (some (pw t p ^ k)))), none, some (.int (iZ (k : Int))), some (.int (iZ ((x : Int) - ((k : Int) * (pa t p : Int))))), some (.int (iZ ((y : Int) - ((k : Int) * (pb t p : Int))))), some (.long (enC (some z))), none, some (.int (iZ 1))]) C dX2_foldedWith_114 rfl (by decide) rfl rfl ?_
                    refine am_iload_n (q := 117) C dX2_foldedWith_116 rfl rfl ?_
                    refine am_lload (q := 119) C dX2_foldedWith_117 rfl rfl ?_
                    refine am_iload (q := 121) C dX2_foldedWith_119 rfl rfl ?_
                    refine am_ifZ_eq (q := 124) (tgt := 133) C dX2_foldedWith_121 (by decide) rfl ⟨by omega, by omega⟩ (fun c8 => ?_) (fun c8 => ?_)
                    · exact absurd c8 (by decide)
                    · rw [show enC (some z) = lN z from enC_lt (by have := (hfz z rfl).1 (by omega); omega)]
                      refine am_lload (q := 126) C dX2_foldedWith_124 rfl rfl ?_
                      refine am_iload (q := 128) C dX2_foldedWith_126 rfl rfl ?_
                      refine am_i2lZ (q := 129) C dX2_foldedWith_128 rfl ⟨by omega, by omega⟩ ?_
                      refine am_longE (y := (lN k)) rfl ?_
                      refine am_ladd (q := 130) C dX2_foldedWith_129 rfl ?_
                      refine am_longE (lN_add _ _) ?_
                      refine am_goto (q := 140) C dX2_foldedWith_130 (by decide) ?_
                      refine am_longE (y := enC (fac w k (pw t p ^ k) (some z))) (by have := (hfz z rfl).1 (by omega); show _ = enC (some (if _ then _ else _)); rw [if_pos (by omega), enC_lt (by omega)]) ?_
                      refine am_callS (q := 143) (As := [.int (iZ (w : Int)), .long (enC acc), .long (enC (fac w k (pw t p ^ k) (some z)))]) (rest := []) C mb_X2_joined st_X2_joined ml_X2_60 dX2_foldedWith_140 rfl (sp_X2_joined hw (u := acc) (b := if w = 1 ∨ w = 2 then z + k else z * pw t p ^ k) (fok_up ha (by omega)) (fok_up (fok_ac (k := k) hfz (Nat.one_le_pow _ _ p4)) (by omega))) rfl rfl ⟨by decide, by decide⟩ ⟨Nat.le_refl _, Nat.le_refl _⟩ (Nat.le_of_ble_eq_true rfl) (am_rle ?_)
                      refine am_lstore (q := 145) (L' := [some (.ref 178), some (.int (iZ (p : Int))), some (.int (iZ (w : Int))), some (.int (iZ (x : Int))), some (.int (iZ (y : Int))), some (.ref 1), some (.long (enC (fop w acc (fac w k (pw t p ^ k) (some z))))), none, some (.long (enC (some (pw t p ^ k)))), none, some (.int (iZ (k : Int))), some (.int (iZ ((x : Int) - ((k : Int) * (pa t p : Int))))), some (.int (iZ ((y : Int) - ((k : Int) * (pb t p : Int))))), some (.long (lN z)), none, some (.int (iZ 1))]) C dX2_foldedWith_143 rfl (by decide) rfl rfl ?_
                      refine am_lload (q := 147) C dX2_foldedWith_145 rfl rfl ?_
                      refine am_aload (q := 149) C dX2_foldedWith_147 rfl rfl ?_
                      refine am_getR (q := 152) C fb_X2_64 dX2_foldedWith_149 rfl rfl kk_1 (show 1 < 215 by decide) kr_1_2 ?_
                      refine am_iload_n (q := 153) C dX2_foldedWith_152 rfl rfl ?_
                      refine am_ialoadZ (q := 154) p C dX2_foldedWith_153 rfl kk_4 (show 4 < 215 by decide) rfl (by omega) (by decide) ?_
                      refine am_intE (y := (iZ (pw t p : Int))) ((hA.2 p (by omega)).2.2.1) ?_
                      refine am_i2lZ (q := 155) C dX2_foldedWith_154 rfl ⟨by omega, by omega⟩ ?_
                      refine am_longE (y := (lN (pw t p))) rfl ?_
                      refine am_longE (y := enC (some (pw t p))) (enC_lt (by omega)).symm ?_
                      refine am_callS (q := 158) (As := [.long (enC (some (pw t p ^ k))), .long (enC (some (pw t p)))]) (rest := []) C mb_X2_product st_X2_product ml_X2_56 dX2_foldedWith_155 rfl (sp_X2_product (a := pw t p ^ k) (b := pw t p) (Nat.one_le_pow _ _ p4) p4) rfl rfl ⟨by decide, by decide⟩ ⟨Nat.le_refl _, Nat.le_refl _⟩ (Nat.le_of_ble_eq_true rfl) (am_rle ?_)
                      refine am_longE (y := enC (some (pw t p ^ (k + 1)))) rfl ?_
                      refine am_lstore (q := 160) (L' := [some (.ref 178), some (.int (iZ (p : Int))), some (.int (iZ (w : Int))), some (.int (iZ (x : Int))), some (.int (iZ (y : Int))), some (.ref 1), some (.long (enC (fop w acc (fac w k (pw t p ^ k) (some z))))), none, some (.long (enC (some (pw t p ^ (k + 1))))), none, some (.int (iZ (k : Int))), some (.int (iZ ((x : Int) - ((k : Int) * (pa t p : Int))))), some (.int (iZ ((y : Int) - ((k : Int) * (pb t p : Int))))), some (.long (lN z)), none, some (.int (iZ 1))]) C dX2_foldedWith_158 rfl (by decide) rfl rfl ?_
                      refine am_iincZ (q := 163) (L' := [some (.ref 178), some (.int (iZ (p : Int))), some (.int (iZ (w : Int))), some (.int (iZ (x : Int))), some (.int (iZ (y : Int))), some (.ref 1), some (.long (enC (fop w acc (fac w k (pw t p ^ k) (some z))))), none, some (.long (enC (some (pw t p ^ (k + 1))))), none, some (.int (iZ ((k + 1 : Nat) : Int))), some (.int (iZ ((x : Int) - ((k : Int) * (pa t p : Int))))), some (.int (iZ ((y : Int) - ((k : Int) * (pb t p : Int))))), some (.long (lN z)), none, some (.int (iZ 1))]) C dX2_foldedWith_160 rfl rfl (by omega) (by decide) rfl rfl ?_
                      refine am_goto (q := 11) C dX2_foldedWith_163 (by decide) ?_
                      refine am_wkA (L1 := [some (.ref 178), some (.int (iZ (p : Int))), some (.int (iZ (w : Int))), some (.int (iZ (x : Int))), some (.int (iZ (y : Int))), some (.ref 1), some (.long (enC (fop w acc (fac w k (pw t p ^ k) (some z))))), none, some (.long (enC (some (pw t p ^ (k + 1))))), none, some (.int (iZ ((k + 1 : Nat) : Int))), none, none, none, none, none]) ⟨rfl, ⟨rfl, ⟨rfl, ⟨rfl, ⟨rfl, ⟨rfl, ⟨rfl, ⟨rfl, ⟨rfl, trivial⟩⟩⟩⟩⟩⟩⟩⟩⟩ ?_
                      refine ih (k + 1) _ ?_ (fT_next hn (by omega) (by omega) (by omega) ?_ hs) (by omega)
                      · exact fok_op ha (fok_up (fok_ac (k := k) hfz (Nat.one_le_pow _ _ p4)) (by omega))
                      · rw [hfz0, if_pos (by assumption)]
                  · refine am_iload_n (q := 105) C dX2_foldedWith_104 rfl rfl ?_
                    refine am_iconst (q := 106) (v := iZ 2) C dX2_foldedWith_105 rfl rfl ?_
                    refine am_icmpZ_ne (q := 109) (tgt := 113) C dX2_foldedWith_106 (by decide) rfl ⟨by omega, by omega⟩ ⟨by omega, by omega⟩ (fun c9 => ?_) (fun c9 => ?_)
                    · refine am_iconst (q := 114) (v := iZ 0) C dX2_foldedWith_113 rfl rfl ?_
                      refine am_istore (q := 116) (L' := [some (.ref 178), some (.int (iZ (p : Int))), some (.int (iZ (w : Int))), some (.int (iZ (x : Int))), some (.int (iZ (y : Int))), some (.ref 1), some (.long (enC acc)), none, some (.long (enC (some (pw t p ^ k)))), none, some (.int (iZ (k : Int))), some (.int (iZ ((x : Int) - ((k : Int) * (pa t p : Int))))), some (.int (iZ ((y : Int) - ((k : Int) * (pb t p : Int))))), some (.long (enC (some z))), none, some (.int (iZ 0))]) C dX2_foldedWith_114 rfl (by decide) rfl rfl ?_
                      refine am_iload_n (q := 117) C dX2_foldedWith_116 rfl rfl ?_
                      refine am_lload (q := 119) C dX2_foldedWith_117 rfl rfl ?_
                      refine am_iload (q := 121) C dX2_foldedWith_119 rfl rfl ?_
                      refine am_ifZ_eq (q := 124) (tgt := 133) C dX2_foldedWith_121 (by decide) rfl ⟨by omega, by omega⟩ (fun c10 => ?_) (fun c10 => ?_)
                      · refine am_lload (q := 135) C dX2_foldedWith_133 rfl rfl ?_
                        refine am_lload (q := 137) C dX2_foldedWith_135 rfl rfl ?_
                        refine am_callS (q := 140) (As := [.long (enC (some z)), .long (enC (some (pw t p ^ k)))]) (rest := [.long (enC acc), .int (iZ (w : Int))]) C mb_X2_product st_X2_product ml_X2_56 dX2_foldedWith_137 rfl (sp_X2_product (a := z) (b := pw t p ^ k) (by have := (hfz z rfl).2 (by omega); omega) (Nat.one_le_pow _ _ p4)) rfl rfl ⟨by decide, by decide⟩ ⟨Nat.le_refl _, Nat.le_refl _⟩ (Nat.le_of_ble_eq_true rfl) (am_rle ?_)
                        refine am_longE (y := enC (fac w k (pw t p ^ k) (some z))) (by show _ = enC (some (if _ then _ else _)); rw [if_neg (by omega)]) ?_
                        refine am_callS (q := 143) (As := [.int (iZ (w : Int)), .long (enC acc), .long (enC (fac w k (pw t p ^ k) (some z)))]) (rest := []) C mb_X2_joined st_X2_joined ml_X2_60 dX2_foldedWith_140 rfl (sp_X2_joined hw (u := acc) (b := if w = 1 ∨ w = 2 then z + k else z * pw t p ^ k) (fok_up ha (by omega)) (fok_up (fok_ac (k := k) hfz (Nat.one_le_pow _ _ p4)) (by omega))) rfl rfl ⟨by decide, by decide⟩ ⟨Nat.le_refl _, Nat.le_refl _⟩ (Nat.le_of_ble_eq_true rfl) (am_rle ?_)
                        refine am_lstore (q := 145) (L' := [some (.ref 178), some (.int (iZ (p : Int))), some (.int (iZ (w : Int))), some (.int (iZ (x : Int))), some (.int (iZ (y : Int))), some (.ref 1), some (.long (enC (fop w acc (fac w k (pw t p ^ k) (some z))))), none, some (.long (enC (some (pw t p ^ k)))), none, some (.int (iZ (k : Int))), some (.int (iZ ((x : Int) - ((k : Int) * (pa t p : Int))))), some (.int (iZ ((y : Int) - ((k : Int) * (pb t p : Int))))), some (.long (enC (some z))), none, some (.int (iZ 0))]) C dX2_foldedWith_143 rfl (by decide) rfl rfl ?_
                        refine am_lload (q := 147) C dX2_foldedWith_145 rfl rfl ?_
                        refine am_aload (q := 149) C dX2_foldedWith_147 rfl rfl ?_
                        refine am_getR (q := 152) C fb_X2_64 dX2_foldedWith_149 rfl rfl kk_1 (show 1 < 215 by decide) kr_1_2 ?_
                        refine am_iload_n (q := 153) C dX2_foldedWith_152 rfl rfl ?_
                        refine am_ialoadZ (q := 154) p C dX2_foldedWith_153 rfl kk_4 (show 4 < 215 by decide) rfl (by omega) (by decide) ?_
                        refine am_intE (y := (iZ (pw t p : Int))) ((hA.2 p (by omega)).2.2.1) ?_
                        refine am_i2lZ (q := 155) C dX2_foldedWith_154 rfl ⟨by omega, by omega⟩ ?_
                        refine am_longE (y := (lN (pw t p))) rfl ?_
                        refine am_longE (y := enC (some (pw t p))) (enC_lt (by omega)).symm ?_
                        refine am_callS (q := 158) (As := [.long (enC (some (pw t p ^ k))), .long (enC (some (pw t p)))]) (rest := []) C mb_X2_product st_X2_product ml_X2_56 dX2_foldedWith_155 rfl (sp_X2_product (a := pw t p ^ k) (b := pw t p) (Nat.one_le_pow _ _ p4) p4) rfl rfl ⟨by decide, by decide⟩ ⟨Nat.le_refl _, Nat.le_refl _⟩ (Nat.le_of_ble_eq_true rfl) (am_rle ?_)
                        refine am_longE (y := enC (some (pw t p ^ (k + 1)))) rfl ?_
                        refine am_lstore (q := 160) (L' := [some (.ref 178), some (.int (iZ (p : Int))), some (.int (iZ (w : Int))), some (.int (iZ (x : Int))), some (.int (iZ (y : Int))), some (.ref 1), some (.long (enC (fop w acc (fac w k (pw t p ^ k) (some z))))), none, some (.long (enC (some (pw t p ^ (k + 1))))), none, some (.int (iZ (k : Int))), some (.int (iZ ((x : Int) - ((k : Int) * (pa t p : Int))))), some (.int (iZ ((y : Int) - ((k : Int) * (pb t p : Int))))), some (.long (enC (some z))), none, some (.int (iZ 0))]) C dX2_foldedWith_158 rfl (by decide) rfl rfl ?_
                        refine am_iincZ (q := 163) (L' := [some (.ref 178), some (.int (iZ (p : Int))), some (.int (iZ (w : Int))), some (.int (iZ (x : Int))), some (.int (iZ (y : Int))), some (.ref 1), some (.long (enC (fop w acc (fac w k (pw t p ^ k) (some z))))), none, some (.long (enC (some (pw t p ^ (k + 1))))), none, some (.int (iZ ((k + 1 : Nat) : Int))), some (.int (iZ ((x : Int) - ((k : Int) * (pa t p : Int))))), some (.int (iZ ((y : Int) - ((k : Int) * (pb t p : Int))))), some (.long (enC (some z))), none, some (.int (iZ 0))]) C dX2_foldedWith_160 rfl rfl (by omega) (by decide) rfl rfl ?_
                        refine am_goto (q := 11) C dX2_foldedWith_163 (by decide) ?_
                        refine am_wkA (L1 := [some (.ref 178), some (.int (iZ (p : Int))), some (.int (iZ (w : Int))), some (.int (iZ (x : Int))), some (.int (iZ (y : Int))), some (.ref 1), some (.long (enC (fop w acc (fac w k (pw t p ^ k) (some z))))), none, some (.long (enC (some (pw t p ^ (k + 1))))), none, some (.int (iZ ((k + 1 : Nat) : Int))), none, none, none, none, none]) ⟨rfl, ⟨rfl, ⟨rfl, ⟨rfl, ⟨rfl, ⟨rfl, ⟨rfl, ⟨rfl, ⟨rfl, trivial⟩⟩⟩⟩⟩⟩⟩⟩⟩ ?_
                        refine ih (k + 1) _ ?_ (fT_next hn (by omega) (by omega) (by omega) ?_ hs) (by omega)
                        · exact fok_op ha (fok_up (fok_ac (k := k) hfz (Nat.one_le_pow _ _ p4)) (by omega))
                        · rw [hfz0, if_pos (by assumption)]
                      · exact absurd c10 (by decide)
                    · refine am_iconst (q := 110) (v := iZ 1) C dX2_foldedWith_109 rfl rfl ?_
                      refine am_goto (q := 114) C dX2_foldedWith_110 (by decide) ?_
                      refine am_istore (q := 116) (L' := [some (.ref 178), some (.int (iZ (p : Int))), some (.int (iZ (w : Int))), some (.int (iZ (x : Int))), some (.int (iZ (y : Int))), some (.ref 1), some (.long (enC acc)), none, some (.long (enC (some (pw t p ^ k)))), none, some (.int (iZ (k : Int))), some (.int (iZ ((x : Int) - ((k : Int) * (pa t p : Int))))), some (.int (iZ ((y : Int) - ((k : Int) * (pb t p : Int))))), some (.long (enC (some z))), none, some (.int (iZ 1))]) C dX2_foldedWith_114 rfl (by decide) rfl rfl ?_
                      refine am_iload_n (q := 117) C dX2_foldedWith_116 rfl rfl ?_
                      refine am_lload (q := 119) C dX2_foldedWith_117 rfl rfl ?_
                      refine am_iload (q := 121) C dX2_foldedWith_119 rfl rfl ?_
                      refine am_ifZ_eq (q := 124) (tgt := 133) C dX2_foldedWith_121 (by decide) rfl ⟨by omega, by omega⟩ (fun c11 => ?_) (fun c11 => ?_)
                      · exact absurd c11 (by decide)
                      · rw [show enC (some z) = lN z from enC_lt (by have := (hfz z rfl).1 (by omega); omega)]
                        refine am_lload (q := 126) C dX2_foldedWith_124 rfl rfl ?_
                        refine am_iload (q := 128) C dX2_foldedWith_126 rfl rfl ?_
                        refine am_i2lZ (q := 129) C dX2_foldedWith_128 rfl ⟨by omega, by omega⟩ ?_
                        refine am_longE (y := (lN k)) rfl ?_
                        refine am_ladd (q := 130) C dX2_foldedWith_129 rfl ?_
                        refine am_longE (lN_add _ _) ?_
                        refine am_goto (q := 140) C dX2_foldedWith_130 (by decide) ?_
                        refine am_longE (y := enC (fac w k (pw t p ^ k) (some z))) (by have := (hfz z rfl).1 (by omega); show _ = enC (some (if _ then _ else _)); rw [if_pos (by omega), enC_lt (by omega)]) ?_
                        refine am_callS (q := 143) (As := [.int (iZ (w : Int)), .long (enC acc), .long (enC (fac w k (pw t p ^ k) (some z)))]) (rest := []) C mb_X2_joined st_X2_joined ml_X2_60 dX2_foldedWith_140 rfl (sp_X2_joined hw (u := acc) (b := if w = 1 ∨ w = 2 then z + k else z * pw t p ^ k) (fok_up ha (by omega)) (fok_up (fok_ac (k := k) hfz (Nat.one_le_pow _ _ p4)) (by omega))) rfl rfl ⟨by decide, by decide⟩ ⟨Nat.le_refl _, Nat.le_refl _⟩ (Nat.le_of_ble_eq_true rfl) (am_rle ?_)
                        refine am_lstore (q := 145) (L' := [some (.ref 178), some (.int (iZ (p : Int))), some (.int (iZ (w : Int))), some (.int (iZ (x : Int))), some (.int (iZ (y : Int))), some (.ref 1), some (.long (enC (fop w acc (fac w k (pw t p ^ k) (some z))))), none, some (.long (enC (some (pw t p ^ k)))), none, some (.int (iZ (k : Int))), some (.int (iZ ((x : Int) - ((k : Int) * (pa t p : Int))))), some (.int (iZ ((y : Int) - ((k : Int) * (pb t p : Int))))), some (.long (lN z)), none, some (.int (iZ 1))]) C dX2_foldedWith_143 rfl (by decide) rfl rfl ?_
                        refine am_lload (q := 147) C dX2_foldedWith_145 rfl rfl ?_
                        refine am_aload (q := 149) C dX2_foldedWith_147 rfl rfl ?_
                        refine am_getR (q := 152) C fb_X2_64 dX2_foldedWith_149 rfl rfl kk_1 (show 1 < 215 by decide) kr_1_2 ?_
                        refine am_iload_n (q := 153) C dX2_foldedWith_152 rfl rfl ?_
                        refine am_ialoadZ (q := 154) p C dX2_foldedWith_153 rfl kk_4 (show 4 < 215 by decide) rfl (by omega) (by decide) ?_
                        refine am_intE (y := (iZ (pw t p : Int))) ((hA.2 p (by omega)).2.2.1) ?_
                        refine am_i2lZ (q := 155) C dX2_foldedWith_154 rfl ⟨by omega, by omega⟩ ?_
                        refine am_longE (y := (lN (pw t p))) rfl ?_
                        refine am_longE (y := enC (some (pw t p))) (enC_lt (by omega)).symm ?_
                        refine am_callS (q := 158) (As := [.long (enC (some (pw t p ^ k))), .long (enC (some (pw t p)))]) (rest := []) C mb_X2_product st_X2_product ml_X2_56 dX2_foldedWith_155 rfl (sp_X2_product (a := pw t p ^ k) (b := pw t p) (Nat.one_le_pow _ _ p4) p4) rfl rfl ⟨by decide, by decide⟩ ⟨Nat.le_refl _, Nat.le_refl _⟩ (Nat.le_of_ble_eq_true rfl) (am_rle ?_)
                        refine am_longE (y := enC (some (pw t p ^ (k + 1)))) rfl ?_
                        refine am_lstore (q := 160) (L' := [some (.ref 178), some (.int (iZ (p : Int))), some (.int (iZ (w : Int))), some (.int (iZ (x : Int))), some (.int (iZ (y : Int))), some (.ref 1), some (.long (enC (fop w acc (fac w k (pw t p ^ k) (some z))))), none, some (.long (enC (some (pw t p ^ (k + 1))))), none, some (.int (iZ (k : Int))), some (.int (iZ ((x : Int) - ((k : Int) * (pa t p : Int))))), some (.int (iZ ((y : Int) - ((k : Int) * (pb t p : Int))))), some (.long (lN z)), none, some (.int (iZ 1))]) C dX2_foldedWith_158 rfl (by decide) rfl rfl ?_
                        refine am_iincZ (q := 163) (L' := [some (.ref 178), some (.int (iZ (p : Int))), some (.int (iZ (w : Int))), some (.int (iZ (x : Int))), some (.int (iZ (y : Int))), some (.ref 1), some (.long (enC (fop w acc (fac w k (pw t p ^ k) (some z))))), none, some (.long (enC (some (pw t p ^ (k + 1))))), none, some (.int (iZ ((k + 1 : Nat) : Int))), some (.int (iZ ((x : Int) - ((k : Int) * (pa t p : Int))))), some (.int (iZ ((y : Int) - ((k : Int) * (pb t p : Int))))), some (.long (lN z)), none, some (.int (iZ 1))]) C dX2_foldedWith_160 rfl rfl (by omega) (by decide) rfl rfl ?_
                        refine am_goto (q := 11) C dX2_foldedWith_163 (by decide) ?_
                        refine am_wkA (L1 := [some (.ref 178), some (.int (iZ (p : Int))), some (.int (iZ (w : Int))), some (.int (iZ (x : Int))), some (.int (iZ (y : Int))), some (.ref 1), some (.long (enC (fop w acc (fac w k (pw t p ^ k) (some z))))), none, some (.long (enC (some (pw t p ^ (k + 1))))), none, some (.int (iZ ((k + 1 : Nat) : Int))), none, none, none, none, none]) ⟨rfl, ⟨rfl, ⟨rfl, ⟨rfl, ⟨rfl, ⟨rfl, ⟨rfl, ⟨rfl, ⟨rfl, trivial⟩⟩⟩⟩⟩⟩⟩⟩⟩ ?_
                        refine ih (k + 1) _ ?_ (fT_next hn (by omega) (by omega) (by omega) ?_ hs) (by omega)
                        · exact fok_op ha (fok_up (fok_ac (k := k) hfz (Nat.one_le_pow _ _ p4)) (by omega))
                        · rw [hfz0, if_pos (by assumption)]
            · refine am_goto (q := 166) C dX2_foldedWith_66 (by decide) ?_
              refine am_lload (q := 168) C dX2_foldedWith_166 rfl rfl ?_
              refine am_lret C T dX2_foldedWith_168 rfl (Nat.le_refl _) (Nat.le_refl _) ⟨_, rfl, ?_⟩
              refine ⟨congrArg enC (fT_done ?_ hs), rfl⟩
              omega
  refine am_ldc2 (q := 3) C dX2_foldedWith_0 rfl ck_X2_15 ?_
  refine am_lstore (q := 5) (L' := [some (.ref 178), some (.int (iZ (p : Int))), some (.int (iZ (w : Int))), some (.int (iZ (x : Int))), some (.int (iZ (y : Int))), some (.ref 1), some (.long (-3)), none, none, none, none, none, none, none, none, none]) C dX2_foldedWith_3 rfl (by decide) rfl rfl ?_
  refine am_lconst (q := 6) (v := lN 1) C dX2_foldedWith_5 rfl rfl ?_
  refine am_lstore (q := 8) (L' := [some (.ref 178), some (.int (iZ (p : Int))), some (.int (iZ (w : Int))), some (.int (iZ (x : Int))), some (.int (iZ (y : Int))), some (.ref 1), some (.long (-3)), none, some (.long (lN 1)), none, none, none, none, none, none, none]) C dX2_foldedWith_6 rfl (by decide) rfl rfl ?_
  refine am_iconst (q := 9) (v := iZ 0) C dX2_foldedWith_8 rfl rfl ?_
  refine am_istore (q := 11) (L' := [some (.ref 178), some (.int (iZ (p : Int))), some (.int (iZ (w : Int))), some (.int (iZ (x : Int))), some (.int (iZ (y : Int))), some (.ref 1), some (.long (-3)), none, some (.long (lN 1)), none, some (.int (iZ 0)), none, none, none, none, none]) C dX2_foldedWith_9 rfl (by decide) rfl rfl ?_
  refine lp 63 0 none (fok_none _ _) ⟨61, rfl, ?_⟩ (by omega)
  rw [if_pos (by omega), Nat.zero_mul, Nat.zero_mul]; rfl
set_option maxRecDepth 4000 in
theorem sp_X2_folded {t : PT} (hA : atP 1 I J t) (hK : okP t) {w x y : Nat} (hw : w ≤ 3) (hx : x ≤ 30) (hy : y ≤ 30) : am_S G mX2_folded 4 0 0 [.ref 178, .int (iZ (w : Int)), .int (iZ (x : Int)), .int (iZ (y : Int)), .ref 1] (215, kK, kR, I, J) (am_ql (fun r w' => r = enC (Ff w t (fO w) 0 (pm t) x y) ∧ ∃ J' : Nat → Nat → Int64, w' = (215, kK, kR, I, J') ∧ ∀ h, h ≠ 179 → J' h = J h)) := by
  have hm := hK.1
  refine am_spec (plainFor_of_name (by decide +kernel)) (Nat.le_of_ble_eq_true rfl) (L := [some (.ref 178), some (.int (iZ (w : Int))), some (.int (iZ (x : Int))), some (.int (iZ (y : Int))), some (.ref 1), none, none, none]) rfl (fun X C T => ?_)
  have lp1 : ∀ (fuel : Nat) (p u : Nat) (v : Int) (J1 : Nat → Nat → Int64), (p < pm t) → (u ≤ x) → (-1 ≤ v ∧ v ≤ y) → (∀ h, h ≠ 179 → J1 h = J h) → (∀ x1 y1, x1 ≤ x → y1 ≤ y → J1 179 (x1 * 31 + y1) = enC (if u < x1 ∨ x1 = u ∧ v < (y1 : Int) then Ff w t (fO w) 0 (p + 1) x1 y1 else Ff w t (fO w) 0 p x1 y1)) → ((v + 1).toNat) < fuel → (∀ (J2 : Nat → Nat → Int64), (∀ h, h ≠ 179 → J2 h = J h) → (∀ x1 y1, x1 ≤ x → y1 ≤ y → J2 179 (x1 * 31 + y1) = enC (if u ≤ x1 then Ff w t (fO w) 0 (p + 1) x1 y1 else Ff w t (fO w) 0 p x1 y1)) → am_A G mX2_folded X (am_rm 4 0 0) 94 [some (.ref 178), some (.int (iZ (w : Int))), some (.int (iZ (x : Int))), some (.int (iZ (y : Int))), some (.ref 1), some (.int (iZ (p : Int))), some (.int (iZ (u : Int))), none] [] (215, kK, kR, I, J2) 0 0) → am_A G mX2_folded X (am_rm 4 0 0) 62 [some (.ref 178), some (.int (iZ (w : Int))), some (.int (iZ (x : Int))), some (.int (iZ (y : Int))), some (.ref 1), some (.int (iZ (p : Int))), some (.int (iZ (u : Int))), some (.int (iZ v))] [] (215, kK, kR, I, J1) 0 0 := by
    intro fuel
    induction fuel with
    | zero => intro p u v J1 hp hu hv hJ hz hfu hk; exact absurd hfu (Nat.not_lt_zero _)
    | succ fuel ih =>
      intro p u v J1 hp hu hv hJ hz hfu hk
      refine am_iload (q := 64) C dX2_folded_62 rfl rfl ?_
      refine am_ifZ_lt (q := 67) (tgt := 94) C dX2_folded_64 (by decide) rfl ⟨by omega, by omega⟩ (fun c1 => ?_) (fun c1 => ?_)
      · refine am_wkA (L1 := [some (.ref 178), some (.int (iZ (w : Int))), some (.int (iZ (x : Int))), some (.int (iZ (y : Int))), some (.ref 1), some (.int (iZ (p : Int))), some (.int (iZ (u : Int))), none]) ⟨rfl, ⟨rfl, ⟨rfl, ⟨rfl, ⟨rfl, ⟨rfl, ⟨rfl, trivial⟩⟩⟩⟩⟩⟩⟩ ?_
        refine hk _ hJ (fun x1 y1 h1 h2 => ?_)
        rw [hz x1 y1 h1 h2]
        by_cases e3 : u ≤ x1
        · rw [if_pos e3, if_pos (by omega)]
        · rw [if_neg e3, if_neg (by omega)]
      · obtain ⟨v, rfl⟩ : ∃ q : Nat, v = q := ⟨v.toNat, by omega⟩
        refine am_aload_n (q := 68) C dX2_folded_67 rfl rfl ?_
        refine am_iload (q := 70) C dX2_folded_68 rfl rfl ?_
        refine am_iload (q := 72) C dX2_folded_70 rfl rfl ?_
        refine am_aload_n (q := 73) C dX2_folded_72 rfl rfl ?_
        refine am_iload (q := 75) C dX2_folded_73 rfl rfl ?_
        refine am_iload_n (q := 76) C dX2_folded_75 rfl rfl ?_
        refine am_iload (q := 78) C dX2_folded_76 rfl rfl ?_
        refine am_iload (q := 80) C dX2_folded_78 rfl rfl ?_
        refine am_aload (q := 82) C dX2_folded_80 rfl rfl ?_
        refine am_callV (q := 85) (As := [.int (iZ (p : Int)), .int (iZ (w : Int)), .int (iZ (u : Int)), .int (iZ (v : Int)), .ref 1]) (rest := [.int (iZ (v : Int)), .int (iZ (u : Int)), .ref 178]) C mb_X2_foldedWith im_X2_foldedWith se_X2_foldedWith ml_X2_29 cb_2 kk_178 (show 178 < 215 by decide) dX2_folded_82 rfl (sp_X2_foldedWith (hA.on (fun _ _ _ => rfl) (hJ 5 (by decide))) hK (p := p) (w := w) (x := u) (y := v) hp hw (by omega) (by omega) (f := Ff w t (fO w) 0 p) (fun x1 y1 => fok_up (fok_Ff hK p (by omega) x1 y1) (by omega)) (fun x1 y1 h1 h2 => by rw [hz x1 y1 (by omega) (by omega), if_neg (by omega)])) rfl rfl ⟨by decide, by decide⟩ ⟨Nat.le_refl _, Nat.le_refl _⟩ (Nat.le_of_ble_eq_true rfl) (am_rle ?_)
        refine am_callV (q := 88) (As := [.int (iZ (u : Int)), .int (iZ (v : Int)), .long (enC (TT w t p (Ff w t (fO w) 0 p) u v))]) (rest := []) C mb_X2_set im_X2_set se_X2_set ml_X2_33 cb_2 kk_178 (show 178 < 215 by decide) dX2_folded_85 rfl (sp_X2_set (x := u) (y := v) (by omega) (by omega)) rfl rfl ⟨by decide, by decide⟩ ⟨Nat.le_refl _, Nat.le_refl _⟩ (Nat.le_of_ble_eq_true rfl) (am_rve ?_)
        refine am_iincZ (q := 91) (L' := [some (.ref 178), some (.int (iZ (w : Int))), some (.int (iZ (x : Int))), some (.int (iZ (y : Int))), some (.ref 1), some (.int (iZ (p : Int))), some (.int (iZ (u : Int))), some (.int (iZ ((v : Int) - 1)))]) C dX2_folded_88 rfl rfl (by omega) (by decide) rfl rfl ?_
        refine am_goto (q := 62) C dX2_folded_91 (by decide) ?_
        refine ih p u _ _ hp hu (by omega) (fun h hh => by rw [am_up_row _ _ _ _ hh]; exact hJ h hh) (fun x1 y1 h1 h2 => ?_) (by omega) hk
        by_cases e : x1 * 31 + y1 = u * 31 + v
        · have e1 : x1 = u := by omega
          have e2 : y1 = v := by omega
          subst e1; subst e2
          rw [am_up_eq, if_pos (by omega)]
          show _ = enC (TT w t (0 + p) _ _ _)
          rw [Nat.zero_add]
        · rw [am_up_ne _ _ _ _ (Or.inr e), hz x1 y1 h1 h2]
          by_cases e3 : u < x1 ∨ x1 = u ∧ (v : Int) < (y1 : Int)
          · rw [if_pos e3, if_pos (by omega)]
          · rw [if_neg e3, if_neg (by omega)]
  have lp2 : ∀ (fuel : Nat) (p : Nat) (u : Int) (J1 : Nat → Nat → Int64), (p < pm t) → (-1 ≤ u ∧ u ≤ x) → (∀ h, h ≠ 179 → J1 h = J h) → (∀ x1 y1, x1 ≤ x → y1 ≤ y → J1 179 (x1 * 31 + y1) = enC (if u < (x1 : Int) then Ff w t (fO w) 0 (p + 1) x1 y1 else Ff w t (fO w) 0 p x1 y1)) → ((u + 1).toNat) < fuel → (∀ (J2 : Nat → Nat → Int64), (∀ h, h ≠ 179 → J2 h = J h) → (∀ x1 y1, x1 ≤ x → y1 ≤ y → J2 179 (x1 * 31 + y1) = enC (Ff w t (fO w) 0 (p + 1) x1 y1)) → am_A G mX2_folded X (am_rm 4 0 0) 100 [some (.ref 178), some (.int (iZ (w : Int))), some (.int (iZ (x : Int))), some (.int (iZ (y : Int))), some (.ref 1), some (.int (iZ (p : Int))), none, none] [] (215, kK, kR, I, J2) 0 0) → am_A G mX2_folded X (am_rm 4 0 0) 54 [some (.ref 178), some (.int (iZ (w : Int))), some (.int (iZ (x : Int))), some (.int (iZ (y : Int))), some (.ref 1), some (.int (iZ (p : Int))), some (.int (iZ u)), none] [] (215, kK, kR, I, J1) 0 0 := by
    intro fuel
    induction fuel with
    | zero => intro p u J1 hp hu hJ hz hfu hk; exact absurd hfu (Nat.not_lt_zero _)
    | succ fuel ih =>
      intro p u J1 hp hu hJ hz hfu hk
      refine am_iload (q := 56) C dX2_folded_54 rfl rfl ?_
      refine am_ifZ_lt (q := 59) (tgt := 100) C dX2_folded_56 (by decide) rfl ⟨by omega, by omega⟩ (fun c2 => ?_) (fun c2 => ?_)
      · refine am_wkA (L1 := [some (.ref 178), some (.int (iZ (w : Int))), some (.int (iZ (x : Int))), some (.int (iZ (y : Int))), some (.ref 1), some (.int (iZ (p : Int))), none, none]) ⟨rfl, ⟨rfl, ⟨rfl, ⟨rfl, ⟨rfl, ⟨rfl, trivial⟩⟩⟩⟩⟩⟩ ?_
        refine hk _ hJ (fun x1 y1 h1 h2 => ?_)
        rw [hz x1 y1 h1 h2, if_pos (by omega)]
      · obtain ⟨q, rfl⟩ : ∃ q : Nat, u = q := ⟨u.toNat, by omega⟩
        refine am_iload_n (q := 60) C dX2_folded_59 rfl rfl ?_
        refine am_istore (q := 62) (L' := [some (.ref 178), some (.int (iZ (w : Int))), some (.int (iZ (x : Int))), some (.int (iZ (y : Int))), some (.ref 1), some (.int (iZ (p : Int))), some (.int (iZ (q : Int))), some (.int (iZ (y : Int)))]) C dX2_folded_60 rfl (by decide) rfl rfl ?_
        refine lp1 (y + 2) p q (y : Int) _ hp (by omega) (by omega) hJ (fun x1 y1 h1 h2 => by
          rw [hz x1 y1 h1 h2]
          by_cases e3 : (q : Int) < (x1 : Int)
          · rw [if_pos e3, if_pos (by omega)]
          · rw [if_neg e3, if_neg (by omega)]) (by omega) (fun J2 hJ hz => ?_)
        refine am_iincZ (q := 97) (L' := [some (.ref 178), some (.int (iZ (w : Int))), some (.int (iZ (x : Int))), some (.int (iZ (y : Int))), some (.ref 1), some (.int (iZ (p : Int))), some (.int (iZ ((q : Int) - 1))), none]) C dX2_folded_94 rfl rfl (by omega) (by decide) rfl rfl ?_
        refine am_goto (q := 54) C dX2_folded_97 (by decide) ?_
        refine ih p _ _ hp (by omega) hJ (fun x1 y1 h1 h2 => ?_) (by omega) hk
        rw [hz x1 y1 h1 h2]
        by_cases e3 : q ≤ x1
        · rw [if_pos e3, if_pos (by omega)]
        · rw [if_neg e3, if_neg (by omega)]
  have lp3 : ∀ (fuel : Nat) (p : Nat) (J1 : Nat → Nat → Int64), (p ≤ pm t) → (∀ h, h ≠ 179 → J1 h = J h) → (∀ x1 y1, x1 ≤ x → y1 ≤ y → J1 179 (x1 * 31 + y1) = enC (Ff w t (fO w) 0 p x1 y1)) → (pm t - p) < fuel → (∀ (J2 : Nat → Nat → Int64), (∀ h, h ≠ 179 → J2 h = J h) → (∀ x1 y1, x1 ≤ x → y1 ≤ y → J2 179 (x1 * 31 + y1) = enC (Ff w t (fO w) 0 (pm t) x1 y1)) → am_A G mX2_folded X (am_rm 4 0 0) 106 [some (.ref 178), some (.int (iZ (w : Int))), some (.int (iZ (x : Int))), some (.int (iZ (y : Int))), some (.ref 1), none, none, none] [] (215, kK, kR, I, J2) 0 0) → am_A G mX2_folded X (am_rm 4 0 0) 34 [some (.ref 178), some (.int (iZ (w : Int))), some (.int (iZ (x : Int))), some (.int (iZ (y : Int))), some (.ref 1), some (.int (iZ (p : Int))), none, none] [] (215, kK, kR, I, J1) 0 0 := by
    intro fuel
    induction fuel with
    | zero => intro p J1 hp hJ hz hfu hk; exact absurd hfu (Nat.not_lt_zero _)
    | succ fuel ih =>
      intro p J1 hp hJ hz hfu hk
      refine am_iload (q := 36) C dX2_folded_34 rfl rfl ?_
      refine am_aload (q := 38) C dX2_folded_36 rfl rfl ?_
      refine am_getIe (q := 41) (v := (iZ (pm t : Int))) C fb_X2_23 dX2_folded_38 rfl rfl kk_1 (show 1 < 215 by decide) hA.1 ?_
      refine am_icmpZ_ge (q := 44) (tgt := 106) C dX2_folded_41 (by decide) rfl ⟨by omega, by omega⟩ ⟨by omega, by omega⟩ (fun c3 => ?_) (fun c3 => ?_)
      · refine am_wkA (L1 := [some (.ref 178), some (.int (iZ (w : Int))), some (.int (iZ (x : Int))), some (.int (iZ (y : Int))), some (.ref 1), none, none, none]) ⟨rfl, ⟨rfl, ⟨rfl, ⟨rfl, ⟨rfl, trivial⟩⟩⟩⟩⟩ ?_
        exact hk _ hJ ((show p = pm t by omega) ▸ hz)
      · refine am_iload (q := 46) C dX2_folded_44 rfl rfl ?_
        refine am_bipush (q := 48) (v := iZ 6) C dX2_folded_46 rfl rfl ?_
        refine am_icmpZ_ge (q := 51) (tgt := 106) C dX2_folded_48 (by decide) rfl ⟨by omega, by omega⟩ ⟨by omega, by omega⟩ (fun c4 => ?_) (fun c4 => ?_)
        · refine am_wkA (L1 := [some (.ref 178), some (.int (iZ (w : Int))), some (.int (iZ (x : Int))), some (.int (iZ (y : Int))), some (.ref 1), none, none, none]) ⟨rfl, ⟨rfl, ⟨rfl, ⟨rfl, ⟨rfl, trivial⟩⟩⟩⟩⟩ ?_
          exact hk _ hJ ((show p = pm t by omega) ▸ hz)
        · refine am_iload_n (q := 52) C dX2_folded_51 rfl rfl ?_
          refine am_istore (q := 54) (L' := [some (.ref 178), some (.int (iZ (w : Int))), some (.int (iZ (x : Int))), some (.int (iZ (y : Int))), some (.ref 1), some (.int (iZ (p : Int))), some (.int (iZ (x : Int))), none]) C dX2_folded_52 rfl (by decide) rfl rfl ?_
          refine lp2 (x + 2) p (x : Int) _ (by omega) (by omega) hJ (fun x1 y1 h1 h2 => by rw [hz x1 y1 h1 h2, if_neg (by omega)]) (by omega) (fun J2 hJ hz => ?_)
          refine am_iincZ (q := 103) (L' := [some (.ref 178), some (.int (iZ (w : Int))), some (.int (iZ (x : Int))), some (.int (iZ (y : Int))), some (.ref 1), some (.int (iZ ((p + 1 : Nat) : Int))), none, none]) C dX2_folded_100 rfl rfl (by omega) (by decide) rfl rfl ?_
          refine am_goto (q := 34) C dX2_folded_103 (by decide) ?_
          exact ih (p + 1) _ (by omega) hJ hz (by omega) hk
  refine am_aload_n (q := 1) C dX2_folded_0 rfl rfl ?_
  refine am_getR (q := 4) C fb_X2_11 dX2_folded_1 rfl rfl kk_178 (show 178 < 215 by decide) kr_178_0 ?_
  refine am_ldc2 (q := 7) C dX2_folded_4 rfl ck_X2_15 ?_
  refine am_callS (q := 10) (As := [.ref 179, .long (-3)]) (rest := []) C mb_J7_fill_d0a16 st_J7_fill_d0a16 ml_X2_17 dX2_folded_7 rfl (sp_fillJ (h := 179) (len := 961) kk_179 (by decide) (by decide) (v := -3)) rfl rfl ⟨by decide, by decide⟩ ⟨Nat.le_refl _, Nat.le_refl _⟩ (Nat.le_of_ble_eq_true rfl) (am_rv (fun w' hw' => ?_))
  obtain ⟨J1, rfl, hJ1, hv1⟩ := hw'
  refine am_aload_n (q := 11) C dX2_folded_10 rfl rfl ?_
  refine am_getR (q := 14) C fb_X2_11 dX2_folded_11 rfl rfl kk_178 (show 178 < 215 by decide) kr_178_0 ?_
  refine am_iconst (q := 15) (v := iZ 0) C dX2_folded_14 rfl rfl ?_
  refine am_iload_n (q := 16) C dX2_folded_15 rfl rfl ?_
  refine am_iconst (q := 17) (v := iZ 1) C dX2_folded_16 rfl rfl ?_
  refine am_icmpZ_eq (q := 20) (tgt := 25) C dX2_folded_17 (by decide) rfl ⟨by omega, by omega⟩ ⟨by omega, by omega⟩ (fun c5 => ?_) (fun c5 => ?_)
  · refine am_lconst (q := 26) (v := lN 0) C dX2_folded_25 rfl rfl ?_
    refine am_goto (q := 30) C dX2_folded_26 (by decide) ?_
    refine am_lastoreZ (q := 31) 0 C dX2_folded_30 rfl kk_179 (show 179 < 215 by decide) rfl (by decide) (by decide) ?_
    refine am_iconst (q := 32) (v := iZ 0) C dX2_folded_31 rfl rfl ?_
    refine am_istore (q := 34) (L' := [some (.ref 178), some (.int (iZ (w : Int))), some (.int (iZ (x : Int))), some (.int (iZ (y : Int))), some (.ref 1), some (.int (iZ 0)), none, none]) C dX2_folded_32 rfl (by decide) rfl rfl ?_
    refine lp3 (pm t + 1) 0 _ (Nat.zero_le _) (fun h hh => by rw [am_up_row _ _ _ _ hh]; exact hJ1 h hh) (fun x1 y1 h1 h2 => by
      show _ = enC (fO w x1 y1)
      unfold fO
      by_cases e : x1 * 31 + y1 = 0
      · rw [e, am_up_eq, if_pos (by omega)]; first | (rw [if_pos (by omega)]; rfl) | (rw [if_neg (by omega)]; rfl)
      · rw [am_up_ne _ _ _ _ (Or.inr e), if_neg (by omega), hv1 _ (by omega)]; rfl) (by omega) (fun J2 hJ hz => ?_)
    refine am_aload_n (q := 107) C dX2_folded_106 rfl rfl ?_
    refine am_iload_n (q := 108) C dX2_folded_107 rfl rfl ?_
    refine am_iload_n (q := 109) C dX2_folded_108 rfl rfl ?_
    refine am_callV (q := 112) (As := [.int (iZ (x : Int)), .int (iZ (y : Int))]) (rest := []) C mb_X2_at im_X2_at se_X2_at ml_X2_37 cb_2 kk_178 (show 178 < 215 by decide) dX2_folded_109 rfl (sp_X2_at (x := (x : Int)) (y := (y : Int)) ⟨by omega, by omega⟩ ⟨by omega, by omega⟩) rfl rfl ⟨by decide, by decide⟩ ⟨Nat.le_refl _, Nat.le_refl _⟩ (Nat.le_of_ble_eq_true rfl) (am_rle ?_)
    refine am_longE (y := enC (Ff w t (fO w) 0 (pm t) x y)) ?_ ?_
    · rw [if_pos (by omega), Int.toNat_natCast, Int.toNat_natCast]; exact hz x y (Nat.le_refl _) (Nat.le_refl _)
    refine am_lret C T dX2_folded_112 rfl (Nat.le_refl _) (Nat.le_refl _) ⟨_, rfl, ?_⟩
    exact ⟨rfl, _, rfl, hJ⟩
  · refine am_iload_n (q := 21) C dX2_folded_20 rfl rfl ?_
    refine am_iconst (q := 22) (v := iZ 2) C dX2_folded_21 rfl rfl ?_
    refine am_icmpZ_ne (q := 25) (tgt := 29) C dX2_folded_22 (by decide) rfl ⟨by omega, by omega⟩ ⟨by omega, by omega⟩ (fun c6 => ?_) (fun c6 => ?_)
    · refine am_lconst (q := 30) (v := lN 1) C dX2_folded_29 rfl rfl ?_
      refine am_lastoreZ (q := 31) 0 C dX2_folded_30 rfl kk_179 (show 179 < 215 by decide) rfl (by decide) (by decide) ?_
      refine am_iconst (q := 32) (v := iZ 0) C dX2_folded_31 rfl rfl ?_
      refine am_istore (q := 34) (L' := [some (.ref 178), some (.int (iZ (w : Int))), some (.int (iZ (x : Int))), some (.int (iZ (y : Int))), some (.ref 1), some (.int (iZ 0)), none, none]) C dX2_folded_32 rfl (by decide) rfl rfl ?_
      refine lp3 (pm t + 1) 0 _ (Nat.zero_le _) (fun h hh => by rw [am_up_row _ _ _ _ hh]; exact hJ1 h hh) (fun x1 y1 h1 h2 => by
        show _ = enC (fO w x1 y1)
        unfold fO
        by_cases e : x1 * 31 + y1 = 0
        · rw [e, am_up_eq, if_pos (by omega)]; first | (rw [if_pos (by omega)]; rfl) | (rw [if_neg (by omega)]; rfl)
        · rw [am_up_ne _ _ _ _ (Or.inr e), if_neg (by omega), hv1 _ (by omega)]; rfl) (by omega) (fun J2 hJ hz => ?_)
      refine am_aload_n (q := 107) C dX2_folded_106 rfl rfl ?_
      refine am_iload_n (q := 108) C dX2_folded_107 rfl rfl ?_
      refine am_iload_n (q := 109) C dX2_folded_108 rfl rfl ?_
      refine am_callV (q := 112) (As := [.int (iZ (x : Int)), .int (iZ (y : Int))]) (rest := []) C mb_X2_at im_X2_at se_X2_at ml_X2_37 cb_2 kk_178 (show 178 < 215 by decide) dX2_folded_109 rfl (sp_X2_at (x := (x : Int)) (y := (y : Int)) ⟨by omega, by omega⟩ ⟨by omega, by omega⟩) rfl rfl ⟨by decide, by decide⟩ ⟨Nat.le_refl _, Nat.le_refl _⟩ (Nat.le_of_ble_eq_true rfl) (am_rle ?_)
      refine am_longE (y := enC (Ff w t (fO w) 0 (pm t) x y)) ?_ ?_
      · rw [if_pos (by omega), Int.toNat_natCast, Int.toNat_natCast]; exact hz x y (Nat.le_refl _) (Nat.le_refl _)
      refine am_lret C T dX2_folded_112 rfl (Nat.le_refl _) (Nat.le_refl _) ⟨_, rfl, ?_⟩
      exact ⟨rfl, _, rfl, hJ⟩
    · refine am_lconst (q := 26) (v := lN 0) C dX2_folded_25 rfl rfl ?_
      refine am_goto (q := 30) C dX2_folded_26 (by decide) ?_
      refine am_lastoreZ (q := 31) 0 C dX2_folded_30 rfl kk_179 (show 179 < 215 by decide) rfl (by decide) (by decide) ?_
      refine am_iconst (q := 32) (v := iZ 0) C dX2_folded_31 rfl rfl ?_
      refine am_istore (q := 34) (L' := [some (.ref 178), some (.int (iZ (w : Int))), some (.int (iZ (x : Int))), some (.int (iZ (y : Int))), some (.ref 1), some (.int (iZ 0)), none, none]) C dX2_folded_32 rfl (by decide) rfl rfl ?_
      refine lp3 (pm t + 1) 0 _ (Nat.zero_le _) (fun h hh => by rw [am_up_row _ _ _ _ hh]; exact hJ1 h hh) (fun x1 y1 h1 h2 => by
        show _ = enC (fO w x1 y1)
        unfold fO
        by_cases e : x1 * 31 + y1 = 0
        · rw [e, am_up_eq, if_pos (by omega)]; first | (rw [if_pos (by omega)]; rfl) | (rw [if_neg (by omega)]; rfl)
        · rw [am_up_ne _ _ _ _ (Or.inr e), if_neg (by omega), hv1 _ (by omega)]; rfl) (by omega) (fun J2 hJ hz => ?_)
      refine am_aload_n (q := 107) C dX2_folded_106 rfl rfl ?_
      refine am_iload_n (q := 108) C dX2_folded_107 rfl rfl ?_
      refine am_iload_n (q := 109) C dX2_folded_108 rfl rfl ?_
      refine am_callV (q := 112) (As := [.int (iZ (x : Int)), .int (iZ (y : Int))]) (rest := []) C mb_X2_at im_X2_at se_X2_at ml_X2_37 cb_2 kk_178 (show 178 < 215 by decide) dX2_folded_109 rfl (sp_X2_at (x := (x : Int)) (y := (y : Int)) ⟨by omega, by omega⟩ ⟨by omega, by omega⟩) rfl rfl ⟨by decide, by decide⟩ ⟨Nat.le_refl _, Nat.le_refl _⟩ (Nat.le_of_ble_eq_true rfl) (am_rle ?_)
      refine am_longE (y := enC (Ff w t (fO w) 0 (pm t) x y)) ?_ ?_
      · rw [if_pos (by omega), Int.toNat_natCast, Int.toNat_natCast]; exact hz x y (Nat.le_refl _) (Nat.le_refl _)
      refine am_lret C T dX2_folded_112 rfl (Nat.le_refl _) (Nat.le_refl _) ⟨_, rfl, ?_⟩
      exact ⟨rfl, _, rfl, hJ⟩
