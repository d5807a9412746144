variable {G : am_G} {I : Nat → Nat → Int32} {J : Nat → Nat → Int64}
abbrev enM (v : Option Nat) : Int64 := enk (-1) (-2) v
theorem lN_ne_m1 {a : Nat} (h : a < 2 ^ 63) : lN a ≠ (-1) := by
  intro e
  have := congrArg Int64.toInt e
  rw [pk_lT h] at this
  have e3 : (-1 : Int64).toInt = -1 := by decide
  omega
theorem lN_ne_m2 {a : Nat} (h : a < 2 ^ 63) : lN a ≠ (-2) := by
  intro e
  have := congrArg Int64.toInt e
  rw [pk_lT h] at this
  have e3 : (-2 : Int64).toInt = -2 := by decide
  omega
theorem enM_lt {a : Nat} (h : a < 2 ^ 63) : enM (some a) = lN a := by show (if _ then _ else _) = _; rw [if_pos h]
theorem enM_ge {a : Nat} (h : ¬ a < 2 ^ 63) : enM (some a) = -2 := by show (if _ then _ else _) = _; rw [if_neg h]
theorem enM_some (a : Nat) : enM (some a) ≠ -1 := by
  by_cases h : a < 2 ^ 63
  · rw [enM_lt h]; exact lN_ne_m1 h
  · rw [enM_ge h]; decide
theorem noneM_of {v : Option Nat} (h : enM v = -1) : v = none := by
  rcases v with _ | a
  · rfl
  · exact absurd h (enM_some a)
set_option maxRecDepth 4000 in
theorem tm_A {a b : Nat} (ha1 : 1 ≤ a) (hb1 : 1 ≤ b) (ha : a < 2 ^ 63) (hb : b < 2 ^ 63) : am_S G mX11_times 1 0 0 [.long (lN a), .long (lN b)] (215, kK, kR, I, J) (am_fl (enM (some (a * b))) (215, kK, kR, I, J)) := by
  refine am_spec (plainFor_of_name (by decide +kernel)) (Nat.le_of_ble_eq_true rfl) (L := [some (.long (lN a)), none, some (.long (lN b)), none]) rfl (fun X C T => ?_)
  refine am_lload_n (q := 1) C dX11_times_0 rfl rfl ?_
  refine am_ldc2 (q := 4) C dX11_times_1 rfl ck_X11_199 ?_
  refine am_lcmp (q := 5) C dX11_times_4 rfl ?_
  refine am_if_eq (q := 8) (tgt := 26) C dX11_times_5 (by decide) rfl (fun c1 => ?_) (fun c1 => ?_)
  · have c1 := (lg_cmp_eq (lN a) (-2)).mp c1; exact absurd c1 (lN_ne_m2 ha)
  · have c1 : ¬ (_) := fun z => c1 ((lg_cmp_eq (lN a) (-2)).mpr z)
    refine am_lload_n (q := 9) C dX11_times_8 rfl rfl ?_
    refine am_ldc2 (q := 12) C dX11_times_9 rfl ck_X11_199 ?_
    refine am_lcmp (q := 13) C dX11_times_12 rfl ?_
    refine am_if_eq (q := 16) (tgt := 26) C dX11_times_13 (by decide) rfl (fun c2 => ?_) (fun c2 => ?_)
    · have c2 := (lg_cmp_eq (lN b) (-2)).mp c2; exact absurd c2 (lN_ne_m2 hb)
    · have c2 : ¬ (_) := fun z => c2 ((lg_cmp_eq (lN b) (-2)).mpr z)
      refine am_lload_n (q := 17) C dX11_times_16 rfl rfl ?_
      refine am_ldc2 (q := 20) C dX11_times_17 rfl ck_X11_201 ?_
      refine am_longE (y := lN 9223372036854775807) rfl ?_
      refine am_lload_n (q := 21) C dX11_times_20 rfl rfl ?_
      refine am_ldiv (q := 22) C dX11_times_21 rfl (lN_pos hb hb1) ?_
      refine am_longE (y := (lN (9223372036854775807 / b))) (pk_lDiv (by decide) hb1 hb) ?_
      refine am_lcmp (q := 23) C dX11_times_22 rfl ?_
      refine am_if_le (q := 26) (tgt := 32) C dX11_times_23 (by decide) rfl (fun c3 => ?_) (fun c3 => ?_)
      · have c3 := ((lg_cmp_le _ _).trans (pk_lLE ha (by have := Nat.div_le_self 9223372036854775807 b; omega))).mp c3
        refine am_lload_n (q := 33) C dX11_times_32 rfl rfl ?_
        refine am_lload_n (q := 34) C dX11_times_33 rfl rfl ?_
        refine am_lmul (q := 35) C dX11_times_34 rfl ?_
        refine am_longE (lN_mul _ _) ?_
        refine am_lret C T dX11_times_35 rfl (Nat.le_refl _) (Nat.le_refl _) ⟨_, rfl, ?_⟩
        refine ⟨?_, rfl⟩
        rw [enM_lt (by have := (Nat.le_div_iff_mul_le (show 0 < b by omega)).mp (show a ≤ 9223372036854775807 / b by omega); omega)]
      · have c3 : ¬ (_) := fun z => c3 (((lg_cmp_le _ _).trans (pk_lLE ha (by have := Nat.div_le_self 9223372036854775807 b; omega))).mpr z)
        refine am_ldc2 (q := 29) C dX11_times_26 rfl ck_X11_199 ?_
        refine am_goto (q := 35) C dX11_times_29 (by decide) ?_
        refine am_lret C T dX11_times_35 rfl (Nat.le_refl _) (Nat.le_refl _) ⟨_, rfl, ?_⟩
        refine ⟨?_, rfl⟩
        rw [enM_ge (fun z => by have := (Nat.le_div_iff_mul_le (show 0 < b by omega)).mpr (Nat.le_of_lt_succ (show a * b < 9223372036854775807 + 1 from z)); omega)]
set_option maxRecDepth 4000 in
theorem tm_B {v : Int64} : am_S G mX11_times 1 0 0 [.long (-2), .long v] (215, kK, kR, I, J) (am_fl (-2) (215, kK, kR, I, J)) := by
  refine am_spec (plainFor_of_name (by decide +kernel)) (Nat.le_of_ble_eq_true rfl) (L := [some (.long (-2)), none, some (.long v), none]) rfl (fun X C T => ?_)
  refine am_lload_n (q := 1) C dX11_times_0 rfl rfl ?_
  refine am_ldc2 (q := 4) C dX11_times_1 rfl ck_X11_199 ?_
  refine am_lcmp (q := 5) C dX11_times_4 rfl ?_
  refine am_if_eq (q := 8) (tgt := 26) C dX11_times_5 (by decide) rfl (fun c1 => ?_) (fun c1 => ?_)
  · have c1 := (lg_cmp_eq (-2) (-2)).mp c1
    refine am_ldc2 (q := 29) C dX11_times_26 rfl ck_X11_199 ?_
    refine am_goto (q := 35) C dX11_times_29 (by decide) ?_
    refine am_lret C T dX11_times_35 rfl (Nat.le_refl _) (Nat.le_refl _) ⟨_, rfl, ?_⟩
    exact ⟨rfl, rfl⟩
  · have c1 : ¬ (_) := fun z => c1 ((lg_cmp_eq (-2) (-2)).mpr z); exact absurd rfl c1
set_option maxRecDepth 4000 in
theorem tm_C {a : Nat} (ha : a < 2 ^ 63) : am_S G mX11_times 1 0 0 [.long (lN a), .long (-2)] (215, kK, kR, I, J) (am_fl (-2) (215, kK, kR, I, J)) := by
  refine am_spec (plainFor_of_name (by decide +kernel)) (Nat.le_of_ble_eq_true rfl) (L := [some (.long (lN a)), none, some (.long (-2)), none]) rfl (fun X C T => ?_)
  refine am_lload_n (q := 1) C dX11_times_0 rfl rfl ?_
  refine am_ldc2 (q := 4) C dX11_times_1 rfl ck_X11_199 ?_
  refine am_lcmp (q := 5) C dX11_times_4 rfl ?_
  refine am_if_eq (q := 8) (tgt := 26) C dX11_times_5 (by decide) rfl (fun c1 => ?_) (fun c1 => ?_)
  · have c1 := (lg_cmp_eq (lN a) (-2)).mp c1; exact absurd c1 (lN_ne_m2 ha)
  · have c1 : ¬ (_) := fun z => c1 ((lg_cmp_eq (lN a) (-2)).mpr z)
    refine am_lload_n (q := 9) C dX11_times_8 rfl rfl ?_
    refine am_ldc2 (q := 12) C dX11_times_9 rfl ck_X11_199 ?_
    refine am_lcmp (q := 13) C dX11_times_12 rfl ?_
    refine am_if_eq (q := 16) (tgt := 26) C dX11_times_13 (by decide) rfl (fun c2 => ?_) (fun c2 => ?_)
    · have c2 := (lg_cmp_eq (-2) (-2)).mp c2
      refine am_ldc2 (q := 29) C dX11_times_26 rfl ck_X11_199 ?_
      refine am_goto (q := 35) C dX11_times_29 (by decide) ?_
      refine am_lret C T dX11_times_35 rfl (Nat.le_refl _) (Nat.le_refl _) ⟨_, rfl, ?_⟩
      exact ⟨rfl, rfl⟩
    · have c2 : ¬ (_) := fun z => c2 ((lg_cmp_eq (-2) (-2)).mpr z); exact absurd rfl c2
theorem sp_X11_times {a b : Nat} (ha : 1 ≤ a) (hb : 1 ≤ b) : am_S G mX11_times 1 0 0 [.long (enM (some a)), .long (enM (some b))] (215, kK, kR, I, J) (am_fl (enM (some (a * b))) (215, kK, kR, I, J)) := by
  by_cases h1 : a < 2 ^ 63
  · rw [enM_lt h1]
    by_cases h2 : b < 2 ^ 63
    · rw [enM_lt h2]; exact tm_A ha hb h1 h2
    · rw [enM_ge h2, enM_ge (a := a * b) (by have := Nat.mul_le_mul ha (Nat.le_refl b); omega)]; exact tm_C h1
  · rw [enM_ge h1, enM_ge (a := a * b) (by have := Nat.mul_le_mul (Nat.le_refl a) hb; omega)]; exact tm_B
set_option maxRecDepth 4000 in
theorem bo_1 {w : Nat} (hw : w ≤ 3) {v : Int64} : am_S G mX11_both 1 0 0 [.int (iZ (w : Int)), .long (-1), .long v] (215, kK, kR, I, J) (am_fl v (215, kK, kR, I, J)) := by
  refine am_spec (plainFor_of_name (by decide +kernel)) (Nat.le_of_ble_eq_true rfl) (L := [some (.int (iZ (w : Int))), some (.long (-1)), none, some (.long v), none]) rfl (fun X C T => ?_)
  refine am_lload_n (q := 1) C dX11_both_0 rfl rfl ?_
  refine am_ldc2 (q := 4) C dX11_both_1 rfl ck_X11_149 ?_
  refine am_lcmp (q := 5) C dX11_both_4 rfl ?_
  refine am_if_eq (q := 8) (tgt := 16) C dX11_both_5 (by decide) rfl (fun c1 => ?_) (fun c1 => ?_)
  · have c1 := (lg_cmp_eq (-1) (-1)).mp c1
    refine am_lload_n (q := 17) C dX11_both_16 rfl rfl ?_
    refine am_ldc2 (q := 20) C dX11_both_17 rfl ck_X11_149 ?_
    refine am_lcmp (q := 21) C dX11_both_20 rfl ?_
    refine am_if_ne (q := 24) (tgt := 28) C dX11_both_21 (by decide) rfl (fun c2 => ?_) (fun c2 => ?_)
    · have c2 : ¬ (_) := fun z => c2 ((lg_cmp_eq (-1) (-1)).mpr z); exact absurd rfl c2
    · have c2 := (lg_cmp_eq (-1) (-1)).mp c2
      refine am_lload_n (q := 25) C dX11_both_24 rfl rfl ?_
      refine am_goto (q := 29) C dX11_both_25 (by decide) ?_
      refine am_lret C T dX11_both_29 rfl (Nat.le_refl _) (Nat.le_refl _) ⟨_, rfl, ?_⟩
      exact ⟨rfl, rfl⟩
  · have c1 : ¬ (_) := fun z => c1 ((lg_cmp_eq (-1) (-1)).mpr z); exact absurd rfl c1
set_option maxRecDepth 4000 in
theorem bo_3 {w : Nat} (hw : w ≤ 3) {b : Int64} (hb : b ≠ -1) : am_S G mX11_both 1 0 0 [.int (iZ (w : Int)), .long (-2), .long b] (215, kK, kR, I, J) (am_fl (-2) (215, kK, kR, I, J)) := by
  refine am_spec (plainFor_of_name (by decide +kernel)) (Nat.le_of_ble_eq_true rfl) (L := [some (.int (iZ (w : Int))), some (.long (-2)), none, some (.long b), none]) rfl (fun X C T => ?_)
  refine am_lload_n (q := 1) C dX11_both_0 rfl rfl ?_
  refine am_ldc2 (q := 4) C dX11_both_1 rfl ck_X11_149 ?_
  refine am_lcmp (q := 5) C dX11_both_4 rfl ?_
  refine am_if_eq (q := 8) (tgt := 16) C dX11_both_5 (by decide) rfl (fun c1 => ?_) (fun c1 => ?_)
  · have c1 := (lg_cmp_eq (-2) (-1)).mp c1; exact absurd c1 (by decide)
  · have c1 : ¬ (_) := fun z => c1 ((lg_cmp_eq (-2) (-1)).mpr z)
    refine am_lload_n (q := 9) C dX11_both_8 rfl rfl ?_
    refine am_ldc2 (q := 12) C dX11_both_9 rfl ck_X11_149 ?_
    refine am_lcmp (q := 13) C dX11_both_12 rfl ?_
    refine am_if_ne (q := 16) (tgt := 30) C dX11_both_13 (by decide) rfl (fun c2 => ?_) (fun c2 => ?_)
    · have c2 : ¬ (_) := fun z => c2 ((lg_cmp_eq b (-1)).mpr z)
      refine am_lload_n (q := 31) C dX11_both_30 rfl rfl ?_
      refine am_ldc2 (q := 34) C dX11_both_31 rfl ck_X11_199 ?_
      refine am_lcmp (q := 35) C dX11_both_34 rfl ?_
      refine am_if_eq (q := 38) (tgt := 46) C dX11_both_35 (by decide) rfl (fun c3 => ?_) (fun c3 => ?_)
      · have c3 := (lg_cmp_eq (-2) (-2)).mp c3
        refine am_ldc2 (q := 49) C dX11_both_46 rfl ck_X11_199 ?_
        refine am_lret C T dX11_both_49 rfl (Nat.le_refl _) (Nat.le_refl _) ⟨_, rfl, ?_⟩
        exact ⟨rfl, rfl⟩
      · have c3 : ¬ (_) := fun z => c3 ((lg_cmp_eq (-2) (-2)).mpr z); exact absurd rfl c3
    · have c2 := (lg_cmp_eq b (-1)).mp c2; exact absurd c2 hb
set_option maxRecDepth 4000 in
theorem bo_4 {w : Nat} (hw : w ≤ 3) {a : Nat} (ha : a < 2 ^ 63) : am_S G mX11_both 1 0 0 [.int (iZ (w : Int)), .long (lN a), .long (-2)] (215, kK, kR, I, J) (am_fl (-2) (215, kK, kR, I, J)) := by
  refine am_spec (plainFor_of_name (by decide +kernel)) (Nat.le_of_ble_eq_true rfl) (L := [some (.int (iZ (w : Int))), some (.long (lN a)), none, some (.long (-2)), none]) rfl (fun X C T => ?_)
  refine am_lload_n (q := 1) C dX11_both_0 rfl rfl ?_
  refine am_ldc2 (q := 4) C dX11_both_1 rfl ck_X11_149 ?_
  refine am_lcmp (q := 5) C dX11_both_4 rfl ?_
  refine am_if_eq (q := 8) (tgt := 16) C dX11_both_5 (by decide) rfl (fun c1 => ?_) (fun c1 => ?_)
  · have c1 := (lg_cmp_eq (lN a) (-1)).mp c1; exact absurd c1 (lN_ne_m1 ha)
  · have c1 : ¬ (_) := fun z => c1 ((lg_cmp_eq (lN a) (-1)).mpr z)
    refine am_lload_n (q := 9) C dX11_both_8 rfl rfl ?_
    refine am_ldc2 (q := 12) C dX11_both_9 rfl ck_X11_149 ?_
    refine am_lcmp (q := 13) C dX11_both_12 rfl ?_
    refine am_if_ne (q := 16) (tgt := 30) C dX11_both_13 (by decide) rfl (fun c2 => ?_) (fun c2 => ?_)
    · have c2 : ¬ (_) := fun z => c2 ((lg_cmp_eq (-2) (-1)).mpr z)
      refine am_lload_n (q := 31) C dX11_both_30 rfl rfl ?_
      refine am_ldc2 (q := 34) C dX11_both_31 rfl ck_X11_199 ?_
      refine am_lcmp (q := 35) C dX11_both_34 rfl ?_
      refine am_if_eq (q := 38) (tgt := 46) C dX11_both_35 (by decide) rfl (fun c3 => ?_) (fun c3 => ?_)
      · have c3 := (lg_cmp_eq (lN a) (-2)).mp c3; exact absurd c3 (lN_ne_m2 ha)
      · have c3 : ¬ (_) := fun z => c3 ((lg_cmp_eq (lN a) (-2)).mpr z)
        refine am_lload_n (q := 39) C dX11_both_38 rfl rfl ?_
        refine am_ldc2 (q := 42) C dX11_both_39 rfl ck_X11_199 ?_
        refine am_lcmp (q := 43) C dX11_both_42 rfl ?_
        refine am_if_ne (q := 46) (tgt := 50) C dX11_both_43 (by decide) rfl (fun c4 => ?_) (fun c4 => ?_)
        · have c4 : ¬ (_) := fun z => c4 ((lg_cmp_eq (-2) (-2)).mpr z); exact absurd rfl c4
        · have c4 := (lg_cmp_eq (-2) (-2)).mp c4
          refine am_ldc2 (q := 49) C dX11_both_46 rfl ck_X11_199 ?_
          refine am_lret C T dX11_both_49 rfl (Nat.le_refl _) (Nat.le_refl _) ⟨_, rfl, ?_⟩
          exact ⟨rfl, rfl⟩
    · have c2 := (lg_cmp_eq (-2) (-1)).mp c2; exact absurd c2 (by decide)
set_option maxRecDepth 4000 in
theorem bo_5 {w : Nat} (hw : w ≤ 3) {a b : Nat} (ha : a < 2 ^ 63) (hb : b < 2 ^ 63) : am_S G mX11_both 1 0 0 [.int (iZ (w : Int)), .long (lN a), .long (lN b)] (215, kK, kR, I, J) (am_fl (enM (some (if w = 0 then a + b else if w = 2 then min a b else max a b))) (215, kK, kR, I, J)) := by
  refine am_spec (plainFor_of_name (by decide +kernel)) (Nat.le_of_ble_eq_true rfl) (L := [some (.int (iZ (w : Int))), some (.long (lN a)), none, some (.long (lN b)), none]) rfl (fun X C T => ?_)
  refine am_lload_n (q := 1) C dX11_both_0 rfl rfl ?_
  refine am_ldc2 (q := 4) C dX11_both_1 rfl ck_X11_149 ?_
  refine am_lcmp (q := 5) C dX11_both_4 rfl ?_
  refine am_if_eq (q := 8) (tgt := 16) C dX11_both_5 (by decide) rfl (fun c1 => ?_) (fun c1 => ?_)
  · have c1 := (lg_cmp_eq (lN a) (-1)).mp c1; exact absurd c1 (lN_ne_m1 ha)
  · have c1 : ¬ (_) := fun z => c1 ((lg_cmp_eq (lN a) (-1)).mpr z)
    refine am_lload_n (q := 9) C dX11_both_8 rfl rfl ?_
    refine am_ldc2 (q := 12) C dX11_both_9 rfl ck_X11_149 ?_
    refine am_lcmp (q := 13) C dX11_both_12 rfl ?_
    refine am_if_ne (q := 16) (tgt := 30) C dX11_both_13 (by decide) rfl (fun c2 => ?_) (fun c2 => ?_)
    · have c2 : ¬ (_) := fun z => c2 ((lg_cmp_eq (lN b) (-1)).mpr z)
      refine am_lload_n (q := 31) C dX11_both_30 rfl rfl ?_
      refine am_ldc2 (q := 34) C dX11_both_31 rfl ck_X11_199 ?_
      refine am_lcmp (q := 35) C dX11_both_34 rfl ?_
      refine am_if_eq (q := 38) (tgt := 46) C dX11_both_35 (by decide) rfl (fun c3 => ?_) (fun c3 => ?_)
      · have c3 := (lg_cmp_eq (lN a) (-2)).mp c3; exact absurd c3 (lN_ne_m2 ha)
      · have c3 : ¬ (_) := fun z => c3 ((lg_cmp_eq (lN a) (-2)).mpr z)
        refine am_lload_n (q := 39) C dX11_both_38 rfl rfl ?_
        refine am_ldc2 (q := 42) C dX11_both_39 rfl ck_X11_199 ?_
        refine am_lcmp (q := 43) C dX11_both_42 rfl ?_
        refine am_if_ne (q := 46) (tgt := 50) C dX11_both_43 (by decide) rfl (fun c4 => ?_) (fun c4 => ?_)
        · have c4 : ¬ (_) := fun z => c4 ((lg_cmp_eq (lN b) (-2)).mpr z)
          refine am_iload_n (q := 51) C dX11_both_50 rfl rfl ?_
          rcases (show ((w : Int) ≠ 0 ∧ (w : Int) ≠ 2) ∨ (w : Int) = 0 ∨ (w : Int) = 2 by omega) with c5 | c5 | c5
          · refine am_lookup (q := 108) (off := 57) C dX11_both_51 (by decide) (by rw [iZ_toInt ⟨by omega, by omega⟩]; simp only [Op.lookupswitch.offset]; rw [if_neg (by omega)]; rw [if_neg (by omega)]) (by decide) ?_
            refine am_lload_n (q := 109) C dX11_both_108 rfl rfl ?_
            refine am_lload_n (q := 110) C dX11_both_109 rfl rfl ?_
            refine am_lcmp (q := 111) C dX11_both_110 rfl ?_
            refine am_if_le (q := 114) (tgt := 118) C dX11_both_111 (by decide) rfl (fun c6 => ?_) (fun c6 => ?_)
            · have c6 := ((lg_cmp_le _ _).trans (pk_lLE ha hb)).mp c6
              refine am_lload_n (q := 119) C dX11_both_118 rfl rfl ?_
              refine am_lret C T dX11_both_119 rfl (Nat.le_refl _) (Nat.le_refl _) ⟨_, rfl, ?_⟩
              refine ⟨?_, rfl⟩
              first | (rw [if_pos (by omega)]) | (rw [if_neg (by omega), if_pos (by omega)]) | (rw [if_neg (by omega), if_neg (by omega)])
              rw [enM_lt (by omega)]
              first | done | exact congrArg lN (by omega)
            · have c6 : ¬ (_) := fun z => c6 (((lg_cmp_le _ _).trans (pk_lLE ha hb)).mpr z)
              refine am_lload_n (q := 115) C dX11_both_114 rfl rfl ?_
              refine am_goto (q := 119) C dX11_both_115 (by decide) ?_
              refine am_lret C T dX11_both_119 rfl (Nat.le_refl _) (Nat.le_refl _) ⟨_, rfl, ?_⟩
              refine ⟨?_, rfl⟩
              first | (rw [if_pos (by omega)]) | (rw [if_neg (by omega), if_pos (by omega)]) | (rw [if_neg (by omega), if_neg (by omega)])
              rw [enM_lt (by omega)]
              first | done | exact congrArg lN (by omega)
          · refine am_lookup (q := 76) (off := 25) C dX11_both_51 (by decide) (by rw [iZ_toInt ⟨by omega, by omega⟩, c5]; rfl) (by decide) ?_
            refine am_lload_n (q := 77) C dX11_both_76 rfl rfl ?_
            refine am_ldc2 (q := 80) C dX11_both_77 rfl ck_X11_201 ?_
            refine am_longE (y := lN 9223372036854775807) rfl ?_
            refine am_lload_n (q := 81) C dX11_both_80 rfl rfl ?_
            refine am_lsub (q := 82) C dX11_both_81 rfl ?_
            refine am_longE (y := (lN (9223372036854775807 - b))) (lN_subN (by omega)) ?_
            refine am_lcmp (q := 83) C dX11_both_82 rfl ?_
            refine am_if_le (q := 86) (tgt := 92) C dX11_both_83 (by decide) rfl (fun c7 => ?_) (fun c7 => ?_)
            · have c7 := ((lg_cmp_le _ _).trans (pk_lLE ha (by omega))).mp c7
              refine am_lload_n (q := 93) C dX11_both_92 rfl rfl ?_
              refine am_lload_n (q := 94) C dX11_both_93 rfl rfl ?_
              refine am_ladd (q := 95) C dX11_both_94 rfl ?_
              refine am_longE (lN_add _ _) ?_
              refine am_lret C T dX11_both_95 rfl (Nat.le_refl _) (Nat.le_refl _) ⟨_, rfl, ?_⟩
              refine ⟨?_, rfl⟩
              first | (rw [if_pos (by omega)]) | (rw [if_neg (by omega), if_pos (by omega)]) | (rw [if_neg (by omega), if_neg (by omega)])
              rw [enM_lt (by omega)]
              first | done | exact congrArg lN (by omega)
            · have c7 : ¬ (_) := fun z => c7 (((lg_cmp_le _ _).trans (pk_lLE ha (by omega))).mpr z)
              refine am_ldc2 (q := 89) C dX11_both_86 rfl ck_X11_199 ?_
              refine am_goto (q := 95) C dX11_both_89 (by decide) ?_
              refine am_lret C T dX11_both_95 rfl (Nat.le_refl _) (Nat.le_refl _) ⟨_, rfl, ?_⟩
              refine ⟨?_, rfl⟩
              first | (rw [if_pos (by omega)]) | (rw [if_neg (by omega), if_pos (by omega)]) | (rw [if_neg (by omega), if_neg (by omega)])
              rw [enM_ge (by omega)]
          · refine am_lookup (q := 96) (off := 45) C dX11_both_51 (by decide) (by rw [iZ_toInt ⟨by omega, by omega⟩, c5]; rfl) (by decide) ?_
            refine am_lload_n (q := 97) C dX11_both_96 rfl rfl ?_
            refine am_lload_n (q := 98) C dX11_both_97 rfl rfl ?_
            refine am_lcmp (q := 99) C dX11_both_98 rfl ?_
            refine am_if_ge (q := 102) (tgt := 106) C dX11_both_99 (by decide) rfl (fun c8 => ?_) (fun c8 => ?_)
            · have c8 := ((lg_cmp_ge _ _).trans (pk_lLE hb ha)).mp c8
              refine am_lload_n (q := 107) C dX11_both_106 rfl rfl ?_
              refine am_lret C T dX11_both_107 rfl (Nat.le_refl _) (Nat.le_refl _) ⟨_, rfl, ?_⟩
              refine ⟨?_, rfl⟩
              first | (rw [if_pos (by omega)]) | (rw [if_neg (by omega), if_pos (by omega)]) | (rw [if_neg (by omega), if_neg (by omega)])
              rw [enM_lt (by omega)]
              first | done | exact congrArg lN (by omega)
            · have c8 : ¬ (_) := fun z => c8 (((lg_cmp_ge _ _).trans (pk_lLE hb ha)).mpr z)
              refine am_lload_n (q := 103) C dX11_both_102 rfl rfl ?_
              refine am_goto (q := 107) C dX11_both_103 (by decide) ?_
              refine am_lret C T dX11_both_107 rfl (Nat.le_refl _) (Nat.le_refl _) ⟨_, rfl, ?_⟩
              refine ⟨?_, rfl⟩
              first | (rw [if_pos (by omega)]) | (rw [if_neg (by omega), if_pos (by omega)]) | (rw [if_neg (by omega), if_neg (by omega)])
              rw [enM_lt (by omega)]
              first | done | exact congrArg lN (by omega)
        · have c4 := (lg_cmp_eq (lN b) (-2)).mp c4; exact absurd c4 (lN_ne_m2 hb)
    · have c2 := (lg_cmp_eq (lN b) (-1)).mp c2; exact absurd c2 (lN_ne_m1 hb)
theorem sp_X11_both {w : Nat} (hw : w ≤ 3) {u : Option Nat} {b : Nat} (hu : fok w 1000 u) (hb : fok w 1000 (some b)) : am_S G mX11_both 1 0 0 [.int (iZ (w : Int)), .long (enM u), .long (enM (some b))] (215, kK, kR, I, J) (am_fl (enM (fop w u (some b))) (215, kK, kR, I, J)) := by
  cases u with
  | none => exact bo_1 hw
  | some a =>
    have h1 := hu a rfl
    have h2 := hb b rfl
    show am_S _ _ _ _ _ _ _ (am_fl (enM (some (if w = 0 then a + b else if w = 2 then min a b else max a b))) _)
    by_cases ea : a < 2 ^ 63
    · by_cases eb : b < 2 ^ 63
      · rw [enM_lt ea, enM_lt eb]; exact bo_5 hw ea eb
      · have e2 : w ≠ 2 := fun e => by have := h2.1 (Or.inr e); omega
        rw [if_neg e2, enM_lt ea, enM_ge eb, enM_ge (a := if w = 0 then a + b else max a b) (by split <;> omega)]; exact bo_4 hw ea
    · have e2 : w ≠ 2 := fun e => by have := h1.1 (Or.inr e); omega
      rw [if_neg e2, enM_ge ea, enM_ge (a := if w = 0 then a + b else max a b) (by split <;> omega)]; exact bo_3 hw (enM_some b)
set_option maxRecDepth 8000 in
theorem sp_X11_foldAt {t : PT} (hA : atQ I J t) (hK : okP t) {p w x y : Nat} (hp : p < pm t) (hw : w ≤ 3) (hx : x ≤ 30) (hy : y ≤ 30) {f : Nat → Nat → Option Nat} (hff : ∀ x1 y1, fok w 300 (f x1 y1)) (hT : ∀ x1 y1, x1 ≤ x → y1 ≤ y → J 207 (((p + 1) * 61 + y1) * 61 + x1) = enM (f x1 y1)) : am_S G mX11_foldAt 2 0 0 [.ref 191, .int (iZ (w : Int)), .int (iZ (p : Int)), .int (iZ (x : Int)), .int (iZ (y : Int))] (215, kK, kR, I, J) (am_fl (enM (TT w t p f x y)) (215, kK, kR, I, J)) := by
  have hm := hK.1
  obtain ⟨p1, p2, p3, p4, p5, p6⟩ := hK.2 p hp
  obtain ⟨q1, q2, q3, q4⟩ := hA.2 p hp
  refine am_spec (plainFor_of_name (by decide +kernel)) (Nat.le_of_ble_eq_true rfl) (L := [some (.ref 191), some (.int (iZ (w : Int))), some (.int (iZ (p : Int))), some (.int (iZ (x : Int))), some (.int (iZ (y : Int))), none, none, none, none, none, none, none]) rfl (fun X C T => ?_)
  have lp : ∀ (fuel : Nat) (k : Nat) (acc : Option Nat), (fok w 1000 acc) → (∃ n, k + n = 61 ∧ fop w acc (if k * pa t p ≤ x ∧ k * pb t p ≤ y then fT w f (ps t p) (pa t p) (pb t p) (pw t p) n k (x - k * pa t p) (y - k * pb t p) else none) = TT w t p f x y) → (62 - k) < fuel → am_A G mX11_foldAt X (am_rm 2 0 0) 11 [some (.ref 191), some (.int (iZ (w : Int))), some (.int (iZ (p : Int))), some (.int (iZ (x : Int))), some (.int (iZ (y : Int))), some (.long (enM acc)), none, some (.long (enM (some (pw t p ^ k)))), none, some (.int (iZ (k : Int))), none, none] [] (215, kK, kR, I, J) 0 0 := by
    intro fuel
    induction fuel with
    | zero => intro k acc ha hs0 hf; exact absurd hf (Nat.not_lt_zero _)
    | succ fuel ih =>
      intro k acc ha hs0 hf
      obtain ⟨n, hn, hs⟩ := hs0
      have hkm1 : k * pa t p ≤ 61 * 4 := Nat.mul_le_mul (by omega) p1
      have hkm2 : k * pb t p ≤ 61 * 4 := Nat.mul_le_mul (by omega) p2
      refine am_iload (q := 13) C dX11_foldAt_11 rfl rfl ?_
      refine am_aload_n (q := 14) C dX11_foldAt_13 rfl rfl ?_
      refine am_getR (q := 17) C fb_X11_15 dX11_foldAt_14 rfl rfl kk_191 (show 191 < 215 by decide) kr_191_4 ?_
      refine am_iload_n (q := 18) C dX11_foldAt_17 rfl rfl ?_
      refine am_ialoadZ (q := 19) p C dX11_foldAt_18 rfl kk_192 (show 192 < 215 by decide) rfl (by omega) (by decide) ?_
      refine am_intE (y := (iZ (pa t p : Int))) q1 ?_
      refine am_imulZ (q := 20) C dX11_foldAt_19 rfl ?_
      refine am_intE (y := (iZ ((k * pa t p : Nat) : Int))) (congrArg iZ (Int.natCast_mul _ _).symm) ?_
      refine am_iload_n (q := 21) C dX11_foldAt_20 rfl rfl ?_
      refine am_icmpZ_gt (q := 24) (tgt := 153) C dX11_foldAt_21 (by decide) rfl ⟨by omega, by omega⟩ ⟨by omega, by omega⟩ (fun c1 => ?_) (fun c1 => ?_)
      · refine am_lload (q := 155) C dX11_foldAt_153 rfl rfl ?_
        refine am_lret C T dX11_foldAt_155 rfl (Nat.le_refl _) (Nat.le_refl _) ⟨_, rfl, ?_⟩
        refine ⟨congrArg enM (fT_done ?_ hs), rfl⟩
        omega
      · refine am_iload (q := 26) C dX11_foldAt_24 rfl rfl ?_
        refine am_aload_n (q := 27) C dX11_foldAt_26 rfl rfl ?_
        refine am_getR (q := 30) C fb_X11_19 dX11_foldAt_27 rfl rfl kk_191 (show 191 < 215 by decide) kr_191_5 ?_
        refine am_iload_n (q := 31) C dX11_foldAt_30 rfl rfl ?_
        refine am_ialoadZ (q := 32) p C dX11_foldAt_31 rfl kk_193 (show 193 < 215 by decide) rfl (by omega) (by decide) ?_
        refine am_intE (y := (iZ (pb t p : Int))) q2 ?_
        refine am_imulZ (q := 33) C dX11_foldAt_32 rfl ?_
        refine am_intE (y := (iZ ((k * pb t p : Nat) : Int))) (congrArg iZ (Int.natCast_mul _ _).symm) ?_
        refine am_iload (q := 35) C dX11_foldAt_33 rfl rfl ?_
        refine am_icmpZ_gt (q := 38) (tgt := 153) C dX11_foldAt_35 (by decide) rfl ⟨by omega, by omega⟩ ⟨by omega, by omega⟩ (fun c2 => ?_) (fun c2 => ?_)
        · refine am_lload (q := 155) C dX11_foldAt_153 rfl rfl ?_
          refine am_lret C T dX11_foldAt_155 rfl (Nat.le_refl _) (Nat.le_refl _) ⟨_, rfl, ?_⟩
          refine ⟨congrArg enM (fT_done ?_ hs), rfl⟩
          omega
        · have hk30 : k ≤ 30 := by
            rcases (show 1 ≤ pa t p ∨ 1 ≤ pb t p by omega) with h9 | h9
            · have := Nat.le_mul_of_pos_right k (show 0 < pa t p by omega); omega
            · have := Nat.le_mul_of_pos_right k (show 0 < pb t p by omega); omega
          refine am_aload_n (q := 39) C dX11_foldAt_38 rfl rfl ?_
          refine am_getR (q := 42) C fb_X11_62 dX11_foldAt_39 rfl rfl kk_191 (show 191 < 215 by decide) kr_191_25 ?_
          refine am_iload_n (q := 43) C dX11_foldAt_42 rfl rfl ?_
          refine am_iconst (q := 44) (v := iZ 1) C dX11_foldAt_43 rfl rfl ?_
          refine am_iaddZ (q := 45) C dX11_foldAt_44 rfl ?_
          refine am_intE (y := (iZ ((p + 1 : Nat) : Int))) (congrArg iZ (by omega)) ?_
          refine am_iload_n (q := 46) C dX11_foldAt_45 rfl rfl ?_
          refine am_iload (q := 48) C dX11_foldAt_46 rfl rfl ?_
          refine am_aload_n (q := 49) C dX11_foldAt_48 rfl rfl ?_
          refine am_getR (q := 52) C fb_X11_15 dX11_foldAt_49 rfl rfl kk_191 (show 191 < 215 by decide) kr_191_4 ?_
          refine am_iload_n (q := 53) C dX11_foldAt_52 rfl rfl ?_
          refine am_ialoadZ (q := 54) p C dX11_foldAt_53 rfl kk_192 (show 192 < 215 by decide) rfl (by omega) (by decide) ?_
          refine am_intE (y := (iZ (pa t p : Int))) q1 ?_
          refine am_imulZ (q := 55) C dX11_foldAt_54 rfl ?_
          refine am_intE (y := (iZ ((k * pa t p : Nat) : Int))) (congrArg iZ (Int.natCast_mul _ _).symm) ?_
          refine am_isubZ (q := 56) C dX11_foldAt_55 rfl ?_
          refine am_intE (y := (iZ ((x - k * pa t p : Nat) : Int))) (congrArg iZ (by omega)) ?_
          refine am_iload (q := 58) C dX11_foldAt_56 rfl rfl ?_
          refine am_iload (q := 60) C dX11_foldAt_58 rfl rfl ?_
          refine am_aload_n (q := 61) C dX11_foldAt_60 rfl rfl ?_
          refine am_getR (q := 64) C fb_X11_19 dX11_foldAt_61 rfl rfl kk_191 (show 191 < 215 by decide) kr_191_5 ?_
          refine am_iload_n (q := 65) C dX11_foldAt_64 rfl rfl ?_
          refine am_ialoadZ (q := 66) p C dX11_foldAt_65 rfl kk_193 (show 193 < 215 by decide) rfl (by omega) (by decide) ?_
          refine am_intE (y := (iZ (pb t p : Int))) q2 ?_
          refine am_imulZ (q := 67) C dX11_foldAt_66 rfl ?_
          refine am_intE (y := (iZ ((k * pb t p : Nat) : Int))) (congrArg iZ (Int.natCast_mul _ _).symm) ?_
          refine am_isubZ (q := 68) C dX11_foldAt_67 rfl ?_
          refine am_intE (y := (iZ ((y - k * pb t p : Nat) : Int))) (congrArg iZ (by omega)) ?_
          refine am_callS (q := 71) (As := [.int (iZ ((p + 1 : Nat) : Int)), .int (iZ ((x - k * pa t p : Nat) : Int)), .int (iZ ((y - k * pb t p : Nat) : Int))]) (rest := [.ref 207]) C mb_X11_place st_X11_place ml_X11_171 dX11_foldAt_68 rfl (sp_X11_place _ _ _) rfl rfl ⟨by decide, by decide⟩ ⟨Nat.le_refl _, Nat.le_refl _⟩ (Nat.le_of_ble_eq_true rfl) (am_rie ?_)
          refine am_laloadZ (q := 72) (((p + 1) * 61 + (y - k * pb t p)) * 61 + (x - k * pa t p)) C dX11_foldAt_71 rfl kk_207 (show 207 < 215 by decide) (by omega) (by omega) (by decide) ?_
          refine am_longE (y := (enM (f (x - k * pa t p) (y - k * pb t p)))) (hT (x - k * pa t p) (y - k * pb t p) (by omega) (by omega)) ?_
          refine am_lstore (q := 74) (L' := [some (.ref 191), some (.int (iZ (w : Int))), some (.int (iZ (p : Int))), some (.int (iZ (x : Int))), some (.int (iZ (y : Int))), some (.long (enM acc)), none, some (.long (enM (some (pw t p ^ k)))), none, some (.int (iZ (k : Int))), some (.long (enM (f (x - k * pa t p) (y - k * pb t p)))), none]) C dX11_foldAt_72 rfl (by decide) rfl rfl ?_
          refine am_aload_n (q := 75) C dX11_foldAt_74 rfl rfl ?_
          refine am_getR (q := 78) C fb_X11_25 dX11_foldAt_75 rfl rfl kk_191 (show 191 < 215 by decide) kr_191_7 ?_
          refine am_iload_n (q := 79) C dX11_foldAt_78 rfl rfl ?_
          refine am_laloadZ (q := 80) p C dX11_foldAt_79 rfl kk_195 (show 195 < 215 by decide) rfl (by omega) (by decide) ?_
          refine am_longE (y := (lN (ps t p))) q4 ?_
          refine am_iload (q := 82) C dX11_foldAt_80 rfl rfl ?_
          refine am_lshr (q := 83) C dX11_foldAt_82 rfl ?_
          refine am_lconst (q := 84) (v := lN 1) C dX11_foldAt_83 rfl rfl ?_
          refine am_land (q := 85) C dX11_foldAt_84 rfl ?_
          refine am_longE (y := (lN (bitOf (ps t p) k))) (bit_M (k := (k : Int)) p6 (by omega)) ?_
          refine am_lconst (q := 86) (v := lN 1) C dX11_foldAt_85 rfl rfl ?_
          refine am_lcmp (q := 87) C dX11_foldAt_86 rfl ?_
          refine am_if_ne (q := 90) (tgt := 133) C dX11_foldAt_87 (by decide) rfl (fun c3 => ?_) (fun c3 => ?_)
          · have c3 : ¬ (_) := fun z => c3 (((lg_cmp_eq _ _).trans (pk_lEQ (by have := bitOf_le (ps t p) k; omega) (by decide))).mpr z)
            refine am_lload (q := 135) C dX11_foldAt_133 rfl rfl ?_
            refine am_aload_n (q := 136) C dX11_foldAt_135 rfl rfl ?_
            refine am_getR (q := 139) C fb_X11_22 dX11_foldAt_136 rfl rfl kk_191 (show 191 < 215 by decide) kr_191_6 ?_
            refine am_iload_n (q := 140) C dX11_foldAt_139 rfl rfl ?_
            refine am_ialoadZ (q := 141) p C dX11_foldAt_140 rfl kk_194 (show 194 < 215 by decide) rfl (by omega) (by decide) ?_
            refine am_intE (y := (iZ (pw t p : Int))) q3 ?_
            refine am_i2lZ (q := 142) C dX11_foldAt_141 rfl ⟨by omega, by omega⟩ ?_
            refine am_longE (y := (lN (pw t p))) rfl ?_
            refine am_longE (y := enM (some (pw t p))) (enM_lt (by omega)).symm ?_
            refine am_callS (q := 145) (As := [.long (enM (some (pw t p ^ k))), .long (enM (some (pw t p)))]) (rest := []) C mb_X11_times st_X11_times ml_X11_203 dX11_foldAt_142 rfl (sp_X11_times (a := pw t p ^ k) (b := pw t p) (Nat.one_le_pow _ _ p4) p4) rfl rfl ⟨by decide, by decide⟩ ⟨Nat.le_refl _, Nat.le_refl _⟩ (Nat.le_of_ble_eq_true rfl) (am_rle ?_)
            refine am_longE (y := enM (some (pw t p ^ (k + 1)))) rfl ?_
            refine am_lstore (q := 147) (L' := [some (.ref 191), some (.int (iZ (w : Int))), some (.int (iZ (p : Int))), some (.int (iZ (x : Int))), some (.int (iZ (y : Int))), some (.long (enM acc)), none, some (.long (enM (some (pw t p ^ (k + 1))))), none, some (.int (iZ (k : Int))), some (.long (enM (f (x - k * pa t p) (y - k * pb t p)))), none]) C dX11_foldAt_145 rfl (by decide) rfl rfl ?_
            refine am_iincZ (q := 150) (L' := [some (.ref 191), some (.int (iZ (w : Int))), some (.int (iZ (p : Int))), some (.int (iZ (x : Int))), some (.int (iZ (y : Int))), some (.long (enM acc)), none, some (.long (enM (some (pw t p ^ (k + 1))))), none, some (.int (iZ ((k + 1 : Nat) : Int))), some (.long (enM (f (x - k * pa t p) (y - k * pb t p)))), none]) C dX11_foldAt_147 rfl rfl (by omega) (by decide) rfl rfl ?_
            refine am_goto (q := 11) C dX11_foldAt_150 (by decide) ?_
            refine am_wkA (L1 := [some (.ref 191), some (.int (iZ (w : Int))), some (.int (iZ (p : Int))), some (.int (iZ (x : Int))), some (.int (iZ (y : Int))), some (.long (enM acc)), none, some (.long (enM (some (pw t p ^ (k + 1))))), none, some (.int (iZ ((k + 1 : Nat) : Int))), none, none]) ⟨rfl, ⟨rfl, ⟨rfl, ⟨rfl, ⟨rfl, ⟨rfl, ⟨rfl, ⟨rfl, trivial⟩⟩⟩⟩⟩⟩⟩⟩ ?_
            obtain ⟨n2, hn2, hs2⟩ := fT_next hn (by omega) (by omega) (by omega) (z := none) (by first | exact (if_neg (by omega)).symm | (rw [show f (x - k * pa t p) (y - k * pb t p) = none from noneM_of (by assumption)]; split <;> rfl)) hs
            rw [fop_n] at hs2
            exact ih (k + 1) acc ha ⟨n2, hn2, hs2⟩ (by omega)
          · have c3 := ((lg_cmp_eq _ _).trans (pk_lEQ (by have := bitOf_le (ps t p) k; omega) (by decide))).mp c3
            refine am_lload (q := 92) C dX11_foldAt_90 rfl rfl ?_
            refine am_ldc2 (q := 95) C dX11_foldAt_92 rfl ck_X11_149 ?_
            refine am_lcmp (q := 96) C dX11_foldAt_95 rfl ?_
            refine am_if_eq (q := 99) (tgt := 133) C dX11_foldAt_96 (by decide) rfl (fun c4 => ?_) (fun c4 => ?_)
            · have c4 := (lg_cmp_eq (enM (f (x - k * pa t p) (y - k * pb t p))) (-1)).mp c4
              refine am_lload (q := 135) C dX11_foldAt_133 rfl rfl ?_
              refine am_aload_n (q := 136) C dX11_foldAt_135 rfl rfl ?_
              refine am_getR (q := 139) C fb_X11_22 dX11_foldAt_136 rfl rfl kk_191 (show 191 < 215 by decide) kr_191_6 ?_
              refine am_iload_n (q := 140) C dX11_foldAt_139 rfl rfl ?_
              refine am_ialoadZ (q := 141) p C dX11_foldAt_140 rfl kk_194 (show 194 < 215 by decide) rfl (by omega) (by decide) ?_
              refine am_intE (y := (iZ (pw t p : Int))) q3 ?_
              refine am_i2lZ (q := 142) C dX11_foldAt_141 rfl ⟨by omega, by omega⟩ ?_
              refine am_longE (y := (lN (pw t p))) rfl ?_
              refine am_longE (y := enM (some (pw t p))) (enM_lt (by omega)).symm ?_
              refine am_callS (q := 145) (As := [.long (enM (some (pw t p ^ k))), .long (enM (some (pw t p)))]) (rest := []) C mb_X11_times st_X11_times ml_X11_203 dX11_foldAt_142 rfl (sp_X11_times (a := pw t p ^ k) (b := pw t p) (Nat.one_le_pow _ _ p4) p4) rfl rfl ⟨by decide, by decide⟩ ⟨Nat.le_refl _, Nat.le_refl _⟩ (Nat.le_of_ble_eq_true rfl) (am_rle ?_)
              refine am_longE (y := enM (some (pw t p ^ (k + 1)))) rfl ?_
              refine am_lstore (q := 147) (L' := [some (.ref 191), some (.int (iZ (w : Int))), some (.int (iZ (p : Int))), some (.int (iZ (x : Int))), some (.int (iZ (y : Int))), some (.long (enM acc)), none, some (.long (enM (some (pw t p ^ (k + 1))))), none, some (.int (iZ (k : Int))), some (.long (enM (f (x - k * pa t p) (y - k * pb t p)))), none]) C dX11_foldAt_145 rfl (by decide) rfl rfl ?_
              refine am_iincZ (q := 150) (L' := [some (.ref 191), some (.int (iZ (w : Int))), some (.int (iZ (p : Int))), some (.int (iZ (x : Int))), some (.int (iZ (y : Int))), some (.long (enM acc)), none, some (.long (enM (some (pw t p ^ (k + 1))))), none, some (.int (iZ ((k + 1 : Nat) : Int))), some (.long (enM (f (x - k * pa t p) (y - k * pb t p)))), none]) C dX11_foldAt_147 rfl rfl (by omega) (by decide) rfl rfl ?_
              refine am_goto (q := 11) C dX11_foldAt_150 (by decide) ?_
              refine am_wkA (L1 := [some (.ref 191), some (.int (iZ (w : Int))), some (.int (iZ (p : Int))), some (.int (iZ (x : Int))), some (.int (iZ (y : Int))), some (.long (enM acc)), none, some (.long (enM (some (pw t p ^ (k + 1))))), none, some (.int (iZ ((k + 1 : Nat) : Int))), none, none]) ⟨rfl, ⟨rfl, ⟨rfl, ⟨rfl, ⟨rfl, ⟨rfl, ⟨rfl, ⟨rfl, trivial⟩⟩⟩⟩⟩⟩⟩⟩ ?_
              obtain ⟨n2, hn2, hs2⟩ := fT_next hn (by omega) (by omega) (by omega) (z := none) (by first | exact (if_neg (by omega)).symm | (rw [show f (x - k * pa t p) (y - k * pb t p) = none from noneM_of (by assumption)]; split <;> rfl)) hs
              rw [fop_n] at hs2
              exact ih (k + 1) acc ha ⟨n2, hn2, hs2⟩ (by omega)
            · have c4 : ¬ (_) := fun z => c4 ((lg_cmp_eq (enM (f (x - k * pa t p) (y - k * pb t p))) (-1)).mpr z)
              obtain ⟨z, hfz0⟩ : ∃ z, f (x - k * pa t p) (y - k * pb t p) = some z := by
                rcases hv : f (x - k * pa t p) (y - k * pb t p) with _ | z
                · rename_i HC; rw [hv] at HC; exact absurd rfl HC
                · exact ⟨z, rfl⟩
              have hfz := hff (x - k * pa t p) (y - k * pb t p)
              rw [hfz0] at hfz ⊢
              refine am_iload_n (q := 100) C dX11_foldAt_99 rfl rfl ?_
              refine am_lload (q := 102) C dX11_foldAt_100 rfl rfl ?_
              refine am_iload_n (q := 103) C dX11_foldAt_102 rfl rfl ?_
              refine am_iconst (q := 104) (v := iZ 1) C dX11_foldAt_103 rfl rfl ?_
              refine am_icmpZ_eq (q := 107) (tgt := 112) C dX11_foldAt_104 (by decide) rfl ⟨by omega, by omega⟩ ⟨by omega, by omega⟩ (fun c5 => ?_) (fun c5 => ?_)
              · rw [show enM (some z) = lN z from enM_lt (by have := (hfz z rfl).1 (by omega); omega)]
                refine am_lload (q := 114) C dX11_foldAt_112 rfl rfl ?_
                refine am_iload (q := 116) C dX11_foldAt_114 rfl rfl ?_
                refine am_i2lZ (q := 117) C dX11_foldAt_116 rfl ⟨by omega, by omega⟩ ?_
                refine am_longE (y := (lN k)) rfl ?_
                refine am_ladd (q := 118) C dX11_foldAt_117 rfl ?_
                refine am_longE (lN_add _ _) ?_
                refine am_goto (q := 128) C dX11_foldAt_118 (by decide) ?_
                refine am_longE (y := enM (fac w k (pw t p ^ k) (some z))) (by have := (hfz z rfl).1 (by omega); show _ = enM (some (if _ then _ else _)); rw [if_pos (by omega), enM_lt (by omega)]) ?_
                refine am_callS (q := 131) (As := [.int (iZ (w : Int)), .long (enM acc), .long (enM (fac w k (pw t p ^ k) (some z)))]) (rest := []) C mb_X11_both st_X11_both ml_X11_207 dX11_foldAt_128 rfl (sp_X11_both hw (u := acc) (b := if w = 1 ∨ w = 2 then z + k else z * pw t p ^ k) (fok_up ha (by omega)) (fok_up (fok_ac (k := k) hfz (Nat.one_le_pow _ _ p4)) (by omega))) rfl rfl ⟨by decide, by decide⟩ ⟨Nat.le_refl _, Nat.le_refl _⟩ (Nat.le_of_ble_eq_true rfl) (am_rle ?_)
                refine am_lstore (q := 133) (L' := [some (.ref 191), some (.int (iZ (w : Int))), some (.int (iZ (p : Int))), some (.int (iZ (x : Int))), some (.int (iZ (y : Int))), some (.long (enM (fop w acc (fac w k (pw t p ^ k) (some z))))), none, some (.long (enM (some (pw t p ^ k)))), none, some (.int (iZ (k : Int))), some (.long (lN z)), none]) C dX11_foldAt_131 rfl (by decide) rfl rfl ?_
                refine am_lload (q := 135) C dX11_foldAt_133 rfl rfl ?_
                refine am_aload_n (q := 136) C dX11_foldAt_135 rfl rfl ?_
                refine am_getR (q := 139) C fb_X11_22 dX11_foldAt_136 rfl rfl kk_191 (show 191 < 215 by decide) kr_191_6 ?_
                refine am_iload_n (q := 140) C dX11_foldAt_139 rfl rfl ?_
                refine am_ialoadZ (q := 141) p C dX11_foldAt_140 rfl kk_194 (show 194 < 215 by decide) rfl (by omega) (by decide) ?_
                refine am_intE (y := (iZ (pw t p : Int))) q3 ?_
                refine am_i2lZ (q := 142) C dX11_foldAt_141 rfl ⟨by omega, by omega⟩ ?_
                refine am_longE (y := (lN (pw t p))) rfl ?_
                refine am_longE (y := enM (some (pw t p))) (enM_lt (by omega)).symm ?_
                refine am_callS (q := 145) (As := [.long (enM (some (pw t p ^ k))), .long (enM (some (pw t p)))]) (rest := []) C mb_X11_times st_X11_times ml_X11_203 dX11_foldAt_142 rfl (sp_X11_times (a := pw t p ^ k) (b := pw t p) (Nat.one_le_pow _ _ p4) p4) rfl rfl ⟨by decide, by decide⟩ ⟨Nat.le_refl _, Nat.le_refl _⟩ (Nat.le_of_ble_eq_true rfl) (am_rle ?_)
                refine am_longE (y := enM (some (pw t p ^ (k + 1)))) rfl ?_
                refine am_lstore (q := 147) (L' := [some (.ref 191), some (.int (iZ (w : Int))), some (.int (iZ (p : Int))), some (.int (iZ (x : Int))), some (.int (iZ (y : Int))), some (.long (enM (fop w acc (fac w k (pw t p ^ k) (some z))))), none, some (.long (enM (some (pw t p ^ (k + 1))))), none, some (.int (iZ (k : Int))), some (.long (lN z)), none]) C dX11_foldAt_145 rfl (by decide) rfl rfl ?_
                refine am_iincZ (q := 150) (L' := [some (.ref 191), some (.int (iZ (w : Int))), some (.int (iZ (p : Int))), some (.int (iZ (x : Int))), some (.int (iZ (y : Int))), some (.long (enM (fop w acc (fac w k (pw t p ^ k) (some z))))), none, some (.long (enM (some (pw t p ^ (k + 1))))), none, some (.int (iZ ((k + 1 : Nat) : Int))), some (.long (lN z)), none]) C dX11_foldAt_147 rfl rfl (by omega) (by decide) rfl rfl ?_
                refine am_goto (q := 11) C dX11_foldAt_150 (by decide) ?_
                refine am_wkA (L1 := [some (.ref 191), some (.int (iZ (w : Int))), some (.int (iZ (p : Int))), some (.int (iZ (x : Int))), some (.int (iZ (y : Int))), some (.long (enM (fop w acc (fac w k (pw t p ^ k) (some z))))), none, some (.long (enM (some (pw t p ^ (k + 1))))), none, some (.int (iZ ((k + 1 : Nat) : Int))), none, none]) ⟨rfl, ⟨rfl, ⟨rfl, ⟨rfl, ⟨rfl, ⟨rfl, ⟨rfl, ⟨rfl, trivial⟩⟩⟩⟩⟩⟩⟩⟩ ?_
                obtain ⟨n2, hn2, hs2⟩ := fT_next hn (by omega) (by omega) (by omega) (z := fac w k (pw t p ^ k) (some z)) (by rw [if_pos (by omega), hfz0]) hs
                exact ih (k + 1) (fop w acc (fac w k (pw t p ^ k) (some z))) (fok_op (fok_up ha (Nat.le_refl _)) (fok_up (fok_ac (k := k) hfz (Nat.one_le_pow _ _ p4)) (by omega))) ⟨n2, hn2, hs2⟩ (by omega)
              · refine am_iload_n (q := 108) C dX11_foldAt_107 rfl rfl ?_
                refine am_iconst (q := 109) (v := iZ 2) C dX11_foldAt_108 rfl rfl ?_
                refine am_icmpZ_ne (q := 112) (tgt := 121) C dX11_foldAt_109 (by decide) rfl ⟨by omega, by omega⟩ ⟨by omega, by omega⟩ (fun c6 => ?_) (fun c6 => ?_)
                · refine am_lload (q := 123) C dX11_foldAt_121 rfl rfl ?_
                  refine am_lload (q := 125) C dX11_foldAt_123 rfl rfl ?_
                  refine am_callS (q := 128) (As := [.long (enM (some z)), .long (enM (some (pw t p ^ k)))]) (rest := [.long (enM acc), .int (iZ (w : Int))]) C mb_X11_times st_X11_times ml_X11_203 dX11_foldAt_125 rfl (sp_X11_times (a := z) (b := pw t p ^ k) (by have := (hfz z rfl).2 (by omega); omega) (Nat.one_le_pow _ _ p4)) rfl rfl ⟨by decide, by decide⟩ ⟨Nat.le_refl _, Nat.le_refl _⟩ (Nat.le_of_ble_eq_true rfl) (am_rle ?_)
                  refine am_longE (y := enM (fac w k (pw t p ^ k) (some z))) (by show _ = enM (some (if _ then _ else _)); rw [if_neg (by omega)]) ?_
                  refine am_callS (q := 131) (As := [.int (iZ (w : Int)), .long (enM acc), .long (enM (fac w k (pw t p ^ k) (some z)))]) (rest := []) C mb_X11_both st_X11_both ml_X11_207 dX11_foldAt_128 rfl (sp_X11_both hw (u := acc) (b := if w = 1 ∨ w = 2 then z + k else z * pw t p ^ k) (fok_up ha (by omega)) (fok_up (fok_ac (k := k) hfz (Nat.one_le_pow _ _ p4)) (by omega))) rfl rfl ⟨by decide, by decide⟩ ⟨Nat.le_refl _, Nat.le_refl _⟩ (Nat.le_of_ble_eq_true rfl) (am_rle ?_)
                  refine am_lstore (q := 133) (L' := [some (.ref 191), some (.int (iZ (w : Int))), some (.int (iZ (p : Int))), some (.int (iZ (x : Int))), some (.int (iZ (y : Int))), some (.long (enM (fop w acc (fac w k (pw t p ^ k) (some z))))), none, some (.long (enM (some (pw t p ^ k)))), none, some (.int (iZ (k : Int))), some (.long (enM (some z))), none]) C dX11_foldAt_131 rfl (by decide) rfl rfl ?_
                  refine am_lload (q := 135) C dX11_foldAt_133 rfl rfl ?_
                  refine am_aload_n (q := 136) C dX11_foldAt_135 rfl rfl ?_
                  refine am_getR (q := 139) C fb_X11_22 dX11_foldAt_136 rfl rfl kk_191 (show 191 < 215 by decide) kr_191_6 ?_
                  refine am_iload_n (q := 140) C dX11_foldAt_139 rfl rfl ?_
                  refine am_ialoadZ (q := 141) p C dX11_foldAt_140 rfl kk_194 (show 194 < 215 by decide) rfl (by omega) (by decide) ?_
                  refine am_intE (y := (iZ (pw t p : Int))) q3 ?_
                  refine am_i2lZ (q := 142) C dX11_foldAt_141 rfl ⟨by omega, by omega⟩ ?_
                  refine am_longE (y := (lN (pw t p))) rfl ?_
                  refine am_longE (y := enM (some (pw t p))) (enM_lt (by omega)).symm ?_
                  refine am_callS (q := 145) (As := [.long (enM (some (pw t p ^ k))), .long (enM (some (pw t p)))]) (rest := []) C mb_X11_times st_X11_times ml_X11_203 dX11_foldAt_142 rfl (sp_X11_times (a := pw t p ^ k) (b := pw t p) (Nat.one_le_pow _ _ p4) p4) rfl rfl ⟨by decide, by decide⟩ ⟨Nat.le_refl _, Nat.le_refl _⟩ (Nat.le_of_ble_eq_true rfl) (am_rle ?_)
                  refine am_longE (y := enM (some (pw t p ^ (k + 1)))) rfl ?_
                  refine am_lstore (q := 147) (L' := [some (.ref 191), some (.int (iZ (w : Int))), some (.int (iZ (p : Int))), some (.int (iZ (x : Int))), some (.int (iZ (y : Int))), some (.long (enM (fop w acc (fac w k (pw t p ^ k) (some z))))), none, some (.long (enM (some (pw t p ^ (k + 1))))), none, some (.int (iZ (k : Int))), some (.long (enM (some z))), none]) C dX11_foldAt_145 rfl (by decide) rfl rfl ?_
                  refine am_iincZ (q := 150) (L' := [some (.ref 191), some (.int (iZ (w : Int))), some (.int (iZ (p : Int))), some (.int (iZ (x : Int))), some (.int (iZ (y : Int))), some (.long (enM (fop w acc (fac w k (pw t p ^ k) (some z))))), none, some (.long (enM (some (pw t p ^ (k + 1))))), none, some (.int (iZ ((k + 1 : Nat) : Int))), some (.long (enM (some z))), none]) C dX11_foldAt_147 rfl rfl (by omega) (by decide) rfl rfl ?_
                  refine am_goto (q := 11) C dX11_foldAt_150 (by decide) ?_
                  refine am_wkA (L1 := [some (.ref 191), some (.int (iZ (w : Int))), some (.int (iZ (p : Int))), some (.int (iZ (x : Int))), some (.int (iZ (y : Int))), some (.long (enM (fop w acc (fac w k (pw t p ^ k) (some z))))), none, some (.long (enM (some (pw t p ^ (k + 1))))), none, some (.int (iZ ((k + 1 : Nat) : Int))), none, none]) ⟨rfl, ⟨rfl, ⟨rfl, ⟨rfl, ⟨rfl, ⟨rfl, ⟨rfl, ⟨rfl, trivial⟩⟩⟩⟩⟩⟩⟩⟩ ?_
                  obtain ⟨n2, hn2, hs2⟩ := fT_next hn (by omega) (by omega) (by omega) (z := fac w k (pw t p ^ k) (some z)) (by rw [if_pos (by omega), hfz0]) hs
                  exact ih (k + 1) (fop w acc (fac w k (pw t p ^ k) (some z))) (fok_op (fok_up ha (Nat.le_refl _)) (fok_up (fok_ac (k := k) hfz (Nat.one_le_pow _ _ p4)) (by omega))) ⟨n2, hn2, hs2⟩ (by omega)
                · rw [show enM (some z) = lN z from enM_lt (by have := (hfz z rfl).1 (by omega); omega)]
                  refine am_lload (q := 114) C dX11_foldAt_112 rfl rfl ?_
                  refine am_iload (q := 116) C dX11_foldAt_114 rfl rfl ?_
                  refine am_i2lZ (q := 117) C dX11_foldAt_116 rfl ⟨by omega, by omega⟩ ?_
                  refine am_longE (y := (lN k)) rfl ?_
                  refine am_ladd (q := 118) C dX11_foldAt_117 rfl ?_
                  refine am_longE (lN_add _ _) ?_
                  refine am_goto (q := 128) C dX11_foldAt_118 (by decide) ?_
                  refine am_longE (y := enM (fac w k (pw t p ^ k) (some z))) (by have := (hfz z rfl).1 (by omega); show _ = enM (some (if _ then _ else _)); rw [if_pos (by omega), enM_lt (by omega)]) ?_
                  refine am_callS (q := 131) (As := [.int (iZ (w : Int)), .long (enM acc), .long (enM (fac w k (pw t p ^ k) (some z)))]) (rest := []) C mb_X11_both st_X11_both ml_X11_207 dX11_foldAt_128 rfl (sp_X11_both hw (u := acc) (b := if w = 1 ∨ w = 2 then z + k else z * pw t p ^ k) (fok_up ha (by omega)) (fok_up (fok_ac (k := k) hfz (Nat.one_le_pow _ _ p4)) (by omega))) rfl rfl ⟨by decide, by decide⟩ ⟨Nat.le_refl _, Nat.le_refl _⟩ (Nat.le_of_ble_eq_true rfl) (am_rle ?_)
                  refine am_lstore (q := 133) (L' := [some (.ref 191), some (.int (iZ (w : Int))), some (.int (iZ (p : Int))), some (.int (iZ (x : Int))), some (.int (iZ (y : Int))), some (.long (enM (fop w acc (fac w k (pw t p ^ k) (some z))))), none, some (.long (enM (some (pw t p ^ k)))), none, some (.int (iZ (k : Int))), some (.long (lN z)), none]) C dX11_foldAt_131 rfl (by decide) rfl rfl ?_
                  refine am_lload (q := 135) C dX11_foldAt_133 rfl rfl ?_
                  refine am_aload_n (q := 136) C dX11_foldAt_135 rfl rfl ?_
                  refine am_getR (q := 139) C fb_X11_22 dX11_foldAt_136 rfl rfl kk_191 (show 191 < 215 by decide) kr_191_6 ?_
                  refine am_iload_n (q := 140) C dX11_foldAt_139 rfl rfl ?_
                  refine am_ialoadZ (q := 141) p C dX11_foldAt_140 rfl kk_194 (show 194 < 215 by decide) rfl (by omega) (by decide) ?_
                  refine am_intE (y := (iZ (pw t p : Int))) q3 ?_
                  refine am_i2lZ (q := 142) C dX11_foldAt_141 rfl ⟨by omega, by omega⟩ ?_
                  refine am_longE (y := (lN (pw t p))) rfl ?_
                  refine am_longE (y := enM (some (pw t p))) (enM_lt (by omega)).symm ?_
                  refine am_callS (q := 145) (As := [.long (enM (some (pw t p ^ k))), .long (enM (some (pw t p)))]) (rest := []) C mb_X11_times st_X11_times ml_X11_203 dX11_foldAt_142 rfl (sp_X11_times (a := pw t p ^ k) (b := pw t p) (Nat.one_le_pow _ _ p4) p4) rfl rfl ⟨by decide, by decide⟩ ⟨Nat.le_refl _, Nat.le_refl _⟩ (Nat.le_of_ble_eq_true rfl) (am_rle ?_)
                  refine am_longE (y := enM (some (pw t p ^ (k + 1)))) rfl ?_
                  refine am_lstore (q := 147) (L' := [some (.ref 191), some (.int (iZ (w : Int))), some (.int (iZ (p : Int))), some (.int (iZ (x : Int))), some (.int (iZ (y : Int))), some (.long (enM (fop w acc (fac w k (pw t p ^ k) (some z))))), none, some (.long (enM (some (pw t p ^ (k + 1))))), none, some (.int (iZ (k : Int))), some (.long (lN z)), none]) C dX11_foldAt_145 rfl (by decide) rfl rfl ?_
                  refine am_iincZ (q := 150) (L' := [some (.ref 191), some (.int (iZ (w : Int))), some (.int (iZ (p : Int))), some (.int (iZ (x : Int))), some (.int (iZ (y : Int))), some (.long (enM (fop w acc (fac w k (pw t p ^ k) (some z))))), none, some (.long (enM (some (pw t p ^ (k + 1))))), none, some (.int (iZ ((k + 1 : Nat) : Int))), some (.long (lN z)), none]) C dX11_foldAt_147 rfl rfl (by omega) (by decide) rfl rfl ?_
                  refine am_goto (q := 11) C dX11_foldAt_150 (by decide) ?_
                  refine am_wkA (L1 := [some (.ref 191), some (.int (iZ (w : Int))), some (.int (iZ (p : Int))), some (.int (iZ (x : Int))), some (.int (iZ (y : Int))), some (.long (enM (fop w acc (fac w k (pw t p ^ k) (some z))))), none, some (.long (enM (some (pw t p ^ (k + 1))))), none, some (.int (iZ ((k + 1 : Nat) : Int))), none, none]) ⟨rfl, ⟨rfl, ⟨rfl, ⟨rfl, ⟨rfl, ⟨rfl, ⟨rfl, ⟨rfl, trivial⟩⟩⟩⟩⟩⟩⟩⟩ ?_
                  obtain ⟨n2, hn2, hs2⟩ := fT_next hn (by omega) (by omega) (by omega) (z := fac w k (pw t p ^ k) (some z)) (by rw [if_pos (by omega), hfz0]) hs
                  exact ih (k + 1) (fop w acc (fac w k (pw t p ^ k) (some z))) (fok_op (fok_up ha (Nat.le_refl _)) (fok_up (fok_ac (k := k) hfz (Nat.one_le_pow _ _ p4)) (by omega))) ⟨n2, hn2, hs2⟩ (by omega)
  refine am_ldc2 (q := 3) C dX11_foldAt_0 rfl ck_X11_149 ?_
  refine am_lstore (q := 5) (L' := [some (.ref 191), some (.int (iZ (w : Int))), some (.int (iZ (p : Int))), some (.int (iZ (x : Int))), some (.int (iZ (y : Int))), some (.long (-1)), none, none, none, none, none, none]) C dX11_foldAt_3 rfl (by decide) rfl rfl ?_
  refine am_lconst (q := 6) (v := lN 1) C dX11_foldAt_5 rfl rfl ?_
  refine am_lstore (q := 8) (L' := [some (.ref 191), some (.int (iZ (w : Int))), some (.int (iZ (p : Int))), some (.int (iZ (x : Int))), some (.int (iZ (y : Int))), some (.long (-1)), none, some (.long (lN 1)), none, none, none, none]) C dX11_foldAt_6 rfl (by decide) rfl rfl ?_
  refine am_iconst (q := 9) (v := iZ 0) C dX11_foldAt_8 rfl rfl ?_
  refine am_istore (q := 11) (L' := [some (.ref 191), some (.int (iZ (w : Int))), some (.int (iZ (p : Int))), some (.int (iZ (x : Int))), some (.int (iZ (y : Int))), some (.long (-1)), none, some (.long (lN 1)), none, some (.int (iZ 0)), none, none]) C dX11_foldAt_9 rfl (by decide) rfl rfl ?_
  refine am_wkA (L1 := [some (.ref 191), some (.int (iZ (w : Int))), some (.int (iZ (p : Int))), some (.int (iZ (x : Int))), some (.int (iZ (y : Int))), some (.long (-1)), none, some (.long (lN 1)), none, some (.int (iZ 0)), none, none]) ⟨rfl, ⟨rfl, ⟨rfl, ⟨rfl, ⟨rfl, ⟨rfl, ⟨rfl, ⟨rfl, trivial⟩⟩⟩⟩⟩⟩⟩⟩ ?_
  have hg1 : enM (some (pw t p ^ 0)) = lN 1 := by rw [Nat.pow_zero]; exact enM_lt (by decide)
  rw [← hg1]
  refine lp 63 0 none (fok_none _ _) ⟨61, rfl, ?_⟩ (by omega)
  rw [if_pos (by omega), Nat.zero_mul, Nat.zero_mul, Nat.sub_zero, Nat.sub_zero]
  rfl
def Gl (w : Nat) (t : PT) (l : Nat) : Nat → Nat → Option Nat := Fb w t (fO w) l (pm t - l)
theorem Gl_end (w : Nat) (t : PT) : Gl w t (pm t) = fO w := by
  unfold Gl
  rw [Nat.sub_self]
  rfl
theorem Gl_part (w : Nat) (t : PT) {p : Nat} (hp : p < pm t) : Gl w t p = TT w t p (Gl w t (p + 1)) := by
  unfold Gl
  obtain ⟨q, hq⟩ : ∃ q, pm t - p = q + 1 := ⟨pm t - p - 1, by omega⟩
  rw [hq, show pm t - (p + 1) = q by omega]
  rfl
theorem Gl_ok {w : Nat} {t : PT} (hK : okP t) {p : Nat} (hp : p < pm t) (x y : Nat) : fok w 300 (Gl w t (p + 1) x y) := by
  have hm := hK.1
  have h := fok_Ff (w := w) hK (p := p + 1) (pm t - (p + 1)) (by omega) x y
  rw [Ff_Fb] at h
  exact fok_up h (by omega)
theorem foldC_n (w : Nat) : foldC (w : Int) none = if w = 0 then 0 else -3 := by
  unfold foldC
  by_cases e : w = 0
  · rw [if_pos e, if_pos ⟨by omega, rfl⟩]
  · rw [if_neg e, if_neg (fun z => by omega)]; rfl
theorem foldC_s (w : Nat) (a : Nat) : foldC (w : Int) (some a) = if a < 2 ^ 63 then lN a else -16 := by
  unfold foldC
  rw [if_neg (fun z => by cases z.2)]
  rfl
set_option maxRecDepth 8000 in
theorem sp_X11_fold {σ : SG} (hM : atM I J σ) {z x y : Int} (hz : rg z) (hx : rg x) (hy : rg y) : am_S G mX11_fold 3 0 0 [.ref 191, .int (iZ z), .int (iZ x), .int (iZ y)] (215, kK, kR, I, J) (am_ql (fun v w' => v = (if (0 ≤ z ∧ z ≤ 3) ∧ 0 ≤ x ∧ x ≤ 30 ∧ 0 ≤ y ∧ y ≤ 30 then foldC z (Ff z.toNat σ.1 (fO z.toNat) 0 (pm σ.1) x.toNat y.toNat) else (-9223372036854775808)) ∧ ∃ (I' : Nat → Nat → Int32) (J' : Nat → Nat → Int64), w' = (215, kK, kR, I', J') ∧ atM I' J' (σ) ∧ frM I J I' J')) := by
  have hQ := hM.1
  have hK := hM.2.1
  have hm := hM.2.1.1
  have hL := hM.2.2.1
  refine am_spec (plainFor_of_name (by decide +kernel)) (Nat.le_of_ble_eq_true rfl) (L := [some (.ref 191), some (.int (iZ z)), some (.int (iZ x)), some (.int (iZ y)), none, none, none]) rfl (fun X C T => ?_)
  refine am_iload_n (q := 1) C dX11_fold_0 rfl rfl ?_
  refine am_iconst (q := 2) (v := iZ 0) C dX11_fold_1 rfl rfl ?_
  refine am_iconst (q := 3) (v := iZ 3) C dX11_fold_2 rfl rfl ?_
  refine am_callS (q := 6) (As := [.int (iZ z), .int (iZ 0), .int (iZ 3)]) (rest := []) C mb_X11_in st_X11_in ml_X11_89 dX11_fold_3 rfl (sp_X11_in (v := z) (a := 0) (b := 3) hz ⟨by omega, by omega⟩ ⟨by omega, by omega⟩) rfl rfl ⟨by decide, by decide⟩ ⟨Nat.le_refl _, Nat.le_refl _⟩ (Nat.le_of_ble_eq_true rfl) (am_rie ?_)
  refine am_ifB_eq (q := 9) (tgt := 19) C dX11_fold_6 (by decide) rfl (fun c1 => ?_) (fun c1 => ?_)
  · refine am_ldc2 (q := 22) C dX11_fold_19 rfl ck_X11_178 ?_
    refine am_lret C T dX11_fold_22 rfl (Nat.le_refl _) (Nat.le_refl _) ⟨_, rfl, ?_⟩
    rw [if_neg (by omega)]
    exact ⟨rfl, _, _, rfl, hM, frM_refl⟩
  · refine am_iload_n (q := 10) C dX11_fold_9 rfl rfl ?_
    refine am_iload_n (q := 11) C dX11_fold_10 rfl rfl ?_
    refine am_bipush (q := 13) (v := iZ 30) C dX11_fold_11 rfl rfl ?_
    refine am_callS (q := 16) (As := [.int (iZ x), .int (iZ y), .int (iZ 30)]) (rest := []) C mb_X11_isPoint st_X11_isPoint ml_X11_175 dX11_fold_13 rfl (sp_X11_isPoint (c := 30) hx hy ⟨by omega, by omega⟩) rfl rfl ⟨by decide, by decide⟩ ⟨Nat.le_refl _, Nat.le_refl _⟩ (Nat.le_of_ble_eq_true rfl) (am_rie ?_)
    refine am_ifB_ne (q := 19) (tgt := 23) C dX11_fold_16 (by decide) rfl (fun c2 => ?_) (fun c2 => ?_)
    · obtain ⟨w, rfl⟩ : ∃ q : Nat, z = q := ⟨z.toNat, by omega⟩
      obtain ⟨cx, rfl⟩ : ∃ q : Nat, x = q := ⟨x.toNat, by omega⟩
      obtain ⟨cy, rfl⟩ : ∃ q : Nat, y = q := ⟨y.toNat, by omega⟩
      have hw3 : w ≤ 3 := by omega
      have i1 : ∀ (fuel : Nat) (x y : Nat) (J1 : Nat → Nat → Int64), (x ≤ cx) → (y ≤ cy + 1) → (∀ h, h ≠ 207 → J1 h = J h) → (∀ l x1 y1 : Nat, l ≤ pm σ.1 → x1 ≤ cx → y1 ≤ cy → (l = pm σ.1 ∧ (x1 < x ∨ x1 = x ∧ y1 < y)) → J1 207 ((l * 61 + y1) * 61 + x1) = enM (Gl w σ.1 l x1 y1)) → (32 - y) < fuel → (∀ (J2 : Nat → Nat → Int64), (∀ h, h ≠ 207 → J2 h = J h) → (∀ l x1 y1 : Nat, l ≤ pm σ.1 → x1 ≤ cx → y1 ≤ cy → (l = pm σ.1 ∧ x1 < x + 1) → J2 207 ((l * 61 + y1) * 61 + x1) = enM (Gl w σ.1 l x1 y1)) → am_A G mX11_fold X (am_rm 3 0 0) 94 [some (.ref 191), some (.int (iZ (w : Int))), some (.int (iZ (cx : Int))), some (.int (iZ (cy : Int))), some (.int (iZ (x : Int))), none, none] [] (215, kK, kR, I, J2) 0 0) → am_A G mX11_fold X (am_rm 3 0 0) 35 [some (.ref 191), some (.int (iZ (w : Int))), some (.int (iZ (cx : Int))), some (.int (iZ (cy : Int))), some (.int (iZ (x : Int))), some (.int (iZ (y : Int))), none] [] (215, kK, kR, I, J1) 0 0 := by
        intro fuel
        induction fuel with
        | zero => intro x y J1 hx9 hy9 hJ hz hfu hk9; exact absurd hfu (Nat.not_lt_zero _)
        | succ fuel ih =>
          intro x y J1 hx9 hy9 hJ hz hfu hk9
          refine am_iload (q := 37) C dX11_fold_35 rfl rfl ?_
          refine am_iload_n (q := 38) C dX11_fold_37 rfl rfl ?_
          refine am_icmpZ_gt (q := 41) (tgt := 94) C dX11_fold_38 (by decide) rfl ⟨by omega, by omega⟩ ⟨by omega, by omega⟩ (fun c1 => ?_) (fun c1 => ?_)
          · refine am_wkA (L1 := [some (.ref 191), some (.int (iZ (w : Int))), some (.int (iZ (cx : Int))), some (.int (iZ (cy : Int))), some (.int (iZ (x : Int))), none, none]) ⟨rfl, ⟨rfl, ⟨rfl, ⟨rfl, ⟨rfl, trivial⟩⟩⟩⟩⟩ ?_
            exact hk9 _ hJ (fun l x1 y1 g1 g2 g3 g4 => hz l x1 y1 g1 g2 g3 (by omega))
          · refine am_aload_n (q := 42) C dX11_fold_41 rfl rfl ?_
            refine am_getR (q := 45) C fb_X11_62 dX11_fold_42 rfl rfl kk_191 (show 191 < 215 by decide) kr_191_25 ?_
            refine am_aload_n (q := 46) C dX11_fold_45 rfl rfl ?_
            refine am_getIe (q := 49) (v := (iZ (pm σ.1 : Int))) C fb_X11_86 dX11_fold_46 rfl rfl kk_191 (show 191 < 215 by decide) hQ.1 ?_
            refine am_iload (q := 51) C dX11_fold_49 rfl rfl ?_
            refine am_iload (q := 53) C dX11_fold_51 rfl rfl ?_
            refine am_callS (q := 56) (As := [.int (iZ (pm σ.1 : Int)), .int (iZ (x : Int)), .int (iZ (y : Int))]) (rest := [.ref 207]) C mb_X11_place st_X11_place ml_X11_171 dX11_fold_53 rfl (sp_X11_place _ _ _) rfl rfl ⟨by decide, by decide⟩ ⟨Nat.le_refl _, Nat.le_refl _⟩ (Nat.le_of_ble_eq_true rfl) (am_rie ?_)
            refine am_iload (q := 58) C dX11_fold_56 rfl rfl ?_
            refine am_ifZ_ne (q := 61) (tgt := 84) C dX11_fold_58 (by decide) rfl ⟨by omega, by omega⟩ (fun c2 => ?_) (fun c2 => ?_)
            · refine am_ldc2 (q := 87) C dX11_fold_84 rfl ck_X11_149 ?_
              refine am_lastoreZ (q := 88) ((pm σ.1 * 61 + y) * 61 + x) C dX11_fold_87 rfl kk_207 (show 207 < 215 by decide) (by omega) (by omega) (by decide) ?_
              refine am_iincZ (q := 91) (L' := [some (.ref 191), some (.int (iZ (w : Int))), some (.int (iZ (cx : Int))), some (.int (iZ (cy : Int))), some (.int (iZ (x : Int))), some (.int (iZ ((y + 1 : Nat) : Int))), none]) C dX11_fold_88 rfl rfl (by omega) (by decide) rfl rfl ?_
              refine am_goto (q := 35) C dX11_fold_91 (by decide) ?_
              refine ih x (y + 1) _ hx9 (by omega) (fun h hh => by rw [am_up_row _ _ _ _ hh]; exact hJ h hh) (fun l x1 y1 g1 g2 g3 g4 => ?_) (by omega) hk9
              by_cases e : (l * 61 + y1) * 61 + x1 = (pm σ.1 * 61 + y) * 61 + x
              · have e1 : l = pm σ.1 := by omega
                have e2 : y1 = y := by omega
                have e3 : x1 = x := by omega
                subst e1; subst e2; subst e3
                have e4 : fO w x1 y1 = none := if_neg (fun z => by omega)
                rw [am_up_eq, Gl_end, e4]
                exact rfl
              · rw [am_up_ne _ _ _ _ (Or.inr e)]; exact hz l x1 y1 g1 g2 g3 (by omega)
            · refine am_iload (q := 63) C dX11_fold_61 rfl rfl ?_
              refine am_ifZ_ne (q := 66) (tgt := 84) C dX11_fold_63 (by decide) rfl ⟨by omega, by omega⟩ (fun c3 => ?_) (fun c3 => ?_)
              · refine am_ldc2 (q := 87) C dX11_fold_84 rfl ck_X11_149 ?_
                refine am_lastoreZ (q := 88) ((pm σ.1 * 61 + y) * 61 + x) C dX11_fold_87 rfl kk_207 (show 207 < 215 by decide) (by omega) (by omega) (by decide) ?_
                refine am_iincZ (q := 91) (L' := [some (.ref 191), some (.int (iZ (w : Int))), some (.int (iZ (cx : Int))), some (.int (iZ (cy : Int))), some (.int (iZ (x : Int))), some (.int (iZ ((y + 1 : Nat) : Int))), none]) C dX11_fold_88 rfl rfl (by omega) (by decide) rfl rfl ?_
                refine am_goto (q := 35) C dX11_fold_91 (by decide) ?_
                refine ih x (y + 1) _ hx9 (by omega) (fun h hh => by rw [am_up_row _ _ _ _ hh]; exact hJ h hh) (fun l x1 y1 g1 g2 g3 g4 => ?_) (by omega) hk9
                by_cases e : (l * 61 + y1) * 61 + x1 = (pm σ.1 * 61 + y) * 61 + x
                · have e1 : l = pm σ.1 := by omega
                  have e2 : y1 = y := by omega
                  have e3 : x1 = x := by omega
                  subst e1; subst e2; subst e3
                  have e4 : fO w x1 y1 = none := if_neg (fun z => by omega)
                  rw [am_up_eq, Gl_end, e4]
                  exact rfl
                · rw [am_up_ne _ _ _ _ (Or.inr e)]; exact hz l x1 y1 g1 g2 g3 (by omega)
              · refine am_iload_n (q := 67) C dX11_fold_66 rfl rfl ?_
                refine am_iconst (q := 68) (v := iZ 1) C dX11_fold_67 rfl rfl ?_
                refine am_icmpZ_eq (q := 71) (tgt := 76) C dX11_fold_68 (by decide) rfl ⟨by omega, by omega⟩ ⟨by omega, by omega⟩ (fun c4 => ?_) (fun c4 => ?_)
                · refine am_lconst (q := 77) (v := lN 0) C dX11_fold_76 rfl rfl ?_
                  refine am_goto (q := 87) C dX11_fold_77 (by decide) ?_
                  refine am_lastoreZ (q := 88) ((pm σ.1 * 61 + y) * 61 + x) C dX11_fold_87 rfl kk_207 (show 207 < 215 by decide) (by omega) (by omega) (by decide) ?_
                  refine am_iincZ (q := 91) (L' := [some (.ref 191), some (.int (iZ (w : Int))), some (.int (iZ (cx : Int))), some (.int (iZ (cy : Int))), some (.int (iZ (x : Int))), some (.int (iZ ((y + 1 : Nat) : Int))), none]) C dX11_fold_88 rfl rfl (by omega) (by decide) rfl rfl ?_
                  refine am_goto (q := 35) C dX11_fold_91 (by decide) ?_
                  refine ih x (y + 1) _ hx9 (by omega) (fun h hh => by rw [am_up_row _ _ _ _ hh]; exact hJ h hh) (fun l x1 y1 g1 g2 g3 g4 => ?_) (by omega) hk9
                  by_cases e : (l * 61 + y1) * 61 + x1 = (pm σ.1 * 61 + y) * 61 + x
                  · have e1 : l = pm σ.1 := by omega
                    have e2 : y1 = y := by omega
                    have e3 : x1 = x := by omega
                    subst e1; subst e2; subst e3
                    have e4 : fO w x1 y1 = some 0 := by unfold fO; rw [if_pos ⟨by omega, by omega⟩, if_pos (by omega)]
                    rw [am_up_eq, Gl_end, e4]
                    exact (enM_lt (by decide)).symm
                  · rw [am_up_ne _ _ _ _ (Or.inr e)]; exact hz l x1 y1 g1 g2 g3 (by omega)
                · refine am_iload_n (q := 72) C dX11_fold_71 rfl rfl ?_
                  refine am_iconst (q := 73) (v := iZ 2) C dX11_fold_72 rfl rfl ?_
                  refine am_icmpZ_ne (q := 76) (tgt := 80) C dX11_fold_73 (by decide) rfl ⟨by omega, by omega⟩ ⟨by omega, by omega⟩ (fun c5 => ?_) (fun c5 => ?_)
                  · refine am_lconst (q := 81) (v := lN 1) C dX11_fold_80 rfl rfl ?_
                    refine am_goto (q := 87) C dX11_fold_81 (by decide) ?_
                    refine am_lastoreZ (q := 88) ((pm σ.1 * 61 + y) * 61 + x) C dX11_fold_87 rfl kk_207 (show 207 < 215 by decide) (by omega) (by omega) (by decide) ?_
                    refine am_iincZ (q := 91) (L' := [some (.ref 191), some (.int (iZ (w : Int))), some (.int (iZ (cx : Int))), some (.int (iZ (cy : Int))), some (.int (iZ (x : Int))), some (.int (iZ ((y + 1 : Nat) : Int))), none]) C dX11_fold_88 rfl rfl (by omega) (by decide) rfl rfl ?_
                    refine am_goto (q := 35) C dX11_fold_91 (by decide) ?_
                    refine ih x (y + 1) _ hx9 (by omega) (fun h hh => by rw [am_up_row _ _ _ _ hh]; exact hJ h hh) (fun l x1 y1 g1 g2 g3 g4 => ?_) (by omega) hk9
                    by_cases e : (l * 61 + y1) * 61 + x1 = (pm σ.1 * 61 + y) * 61 + x
                    · have e1 : l = pm σ.1 := by omega
                      have e2 : y1 = y := by omega
                      have e3 : x1 = x := by omega
                      subst e1; subst e2; subst e3
                      have e4 : fO w x1 y1 = some 1 := by unfold fO; rw [if_pos ⟨by omega, by omega⟩, if_neg (by omega)]
                      rw [am_up_eq, Gl_end, e4]
                      exact (enM_lt (by decide)).symm
                    · rw [am_up_ne _ _ _ _ (Or.inr e)]; exact hz l x1 y1 g1 g2 g3 (by omega)
                  · refine am_lconst (q := 77) (v := lN 0) C dX11_fold_76 rfl rfl ?_
                    refine am_goto (q := 87) C dX11_fold_77 (by decide) ?_
                    refine am_lastoreZ (q := 88) ((pm σ.1 * 61 + y) * 61 + x) C dX11_fold_87 rfl kk_207 (show 207 < 215 by decide) (by omega) (by omega) (by decide) ?_
                    refine am_iincZ (q := 91) (L' := [some (.ref 191), some (.int (iZ (w : Int))), some (.int (iZ (cx : Int))), some (.int (iZ (cy : Int))), some (.int (iZ (x : Int))), some (.int (iZ ((y + 1 : Nat) : Int))), none]) C dX11_fold_88 rfl rfl (by omega) (by decide) rfl rfl ?_
                    refine am_goto (q := 35) C dX11_fold_91 (by decide) ?_
                    refine ih x (y + 1) _ hx9 (by omega) (fun h hh => by rw [am_up_row _ _ _ _ hh]; exact hJ h hh) (fun l x1 y1 g1 g2 g3 g4 => ?_) (by omega) hk9
                    by_cases e : (l * 61 + y1) * 61 + x1 = (pm σ.1 * 61 + y) * 61 + x
                    · have e1 : l = pm σ.1 := by omega
                      have e2 : y1 = y := by omega
                      have e3 : x1 = x := by omega
                      subst e1; subst e2; subst e3
                      have e4 : fO w x1 y1 = some 0 := by unfold fO; rw [if_pos ⟨by omega, by omega⟩, if_pos (by omega)]
                      rw [am_up_eq, Gl_end, e4]
                      exact (enM_lt (by decide)).symm
                    · rw [am_up_ne _ _ _ _ (Or.inr e)]; exact hz l x1 y1 g1 g2 g3 (by omega)
      have i2 : ∀ (fuel : Nat) (x : Nat) (J1 : Nat → Nat → Int64), (x ≤ cx + 1) → (∀ h, h ≠ 207 → J1 h = J h) → (∀ l x1 y1 : Nat, l ≤ pm σ.1 → x1 ≤ cx → y1 ≤ cy → (l = pm σ.1 ∧ x1 < x) → J1 207 ((l * 61 + y1) * 61 + x1) = enM (Gl w σ.1 l x1 y1)) → (32 - x) < fuel → (∀ (J2 : Nat → Nat → Int64), (∀ h, h ≠ 207 → J2 h = J h) → (∀ l x1 y1 : Nat, l ≤ pm σ.1 → x1 ≤ cx → y1 ≤ cy → (l = pm σ.1) → J2 207 ((l * 61 + y1) * 61 + x1) = enM (Gl w σ.1 l x1 y1)) → am_A G mX11_fold X (am_rm 3 0 0) 100 [some (.ref 191), some (.int (iZ (w : Int))), some (.int (iZ (cx : Int))), some (.int (iZ (cy : Int))), none, none, none] [] (215, kK, kR, I, J2) 0 0) → am_A G mX11_fold X (am_rm 3 0 0) 26 [some (.ref 191), some (.int (iZ (w : Int))), some (.int (iZ (cx : Int))), some (.int (iZ (cy : Int))), some (.int (iZ (x : Int))), none, none] [] (215, kK, kR, I, J1) 0 0 := by
        intro fuel
        induction fuel with
        | zero => intro x J1 hx9 hJ hz hfu hk9; exact absurd hfu (Nat.not_lt_zero _)
        | succ fuel ih =>
          intro x J1 hx9 hJ hz hfu hk9
          refine am_iload (q := 28) C dX11_fold_26 rfl rfl ?_
          refine am_iload_n (q := 29) C dX11_fold_28 rfl rfl ?_
          refine am_icmpZ_gt (q := 32) (tgt := 100) C dX11_fold_29 (by decide) rfl ⟨by omega, by omega⟩ ⟨by omega, by omega⟩ (fun c6 => ?_) (fun c6 => ?_)
          · refine am_wkA (L1 := [some (.ref 191), some (.int (iZ (w : Int))), some (.int (iZ (cx : Int))), some (.int (iZ (cy : Int))), none, none, none]) ⟨rfl, ⟨rfl, ⟨rfl, ⟨rfl, trivial⟩⟩⟩⟩ ?_
            exact hk9 _ hJ (fun l x1 y1 g1 g2 g3 g4 => hz l x1 y1 g1 g2 g3 (by omega))
          · refine am_iconst (q := 33) (v := iZ 0) C dX11_fold_32 rfl rfl ?_
            refine am_istore (q := 35) (L' := [some (.ref 191), some (.int (iZ (w : Int))), some (.int (iZ (cx : Int))), some (.int (iZ (cy : Int))), some (.int (iZ (x : Int))), some (.int (iZ 0)), none]) C dX11_fold_33 rfl (by decide) rfl rfl ?_
            refine i1 33 x 0 _ (by omega) (by omega) hJ (fun l x1 y1 g1 g2 g3 g4 => hz l x1 y1 g1 g2 g3 (by omega)) (by omega) (fun J2 hJ hz => ?_)
            refine am_iincZ (q := 97) (L' := [some (.ref 191), some (.int (iZ (w : Int))), some (.int (iZ (cx : Int))), some (.int (iZ (cy : Int))), some (.int (iZ ((x + 1 : Nat) : Int))), none, none]) C dX11_fold_94 rfl rfl (by omega) (by decide) rfl rfl ?_
            refine am_goto (q := 26) C dX11_fold_97 (by decide) ?_
            exact ih (x + 1) _ (by omega) hJ hz (by omega) hk9
      have x1 : ∀ (fuel : Nat) (p x y : Nat) (J1 : Nat → Nat → Int64), (p < pm σ.1) → (x ≤ cx) → (y ≤ cy + 1) → (∀ h, h ≠ 207 → J1 h = J h) → (∀ l x1 y1 : Nat, l ≤ pm σ.1 → x1 ≤ cx → y1 ≤ cy → (p < l ∨ l = p ∧ (x1 < x ∨ x1 = x ∧ y1 < y)) → J1 207 ((l * 61 + y1) * 61 + x1) = enM (Gl w σ.1 l x1 y1)) → (32 - y) < fuel → (∀ (J2 : Nat → Nat → Int64), (∀ h, h ≠ 207 → J2 h = J h) → (∀ l x1 y1 : Nat, l ≤ pm σ.1 → x1 ≤ cx → y1 ≤ cy → (p < l ∨ l = p ∧ x1 < x + 1) → J2 207 ((l * 61 + y1) * 61 + x1) = enM (Gl w σ.1 l x1 y1)) → am_A G mX11_fold X (am_rm 3 0 0) 162 [some (.ref 191), some (.int (iZ (w : Int))), some (.int (iZ (cx : Int))), some (.int (iZ (cy : Int))), some (.int (iZ (p : Int))), some (.int (iZ (x : Int))), none] [] (215, kK, kR, I, J2) 0 0) → am_A G mX11_fold X (am_rm 3 0 0) 125 [some (.ref 191), some (.int (iZ (w : Int))), some (.int (iZ (cx : Int))), some (.int (iZ (cy : Int))), some (.int (iZ (p : Int))), some (.int (iZ (x : Int))), some (.int (iZ (y : Int)))] [] (215, kK, kR, I, J1) 0 0 := by
        intro fuel
        induction fuel with
        | zero => intro p x y J1 hp hx9 hy9 hJ hz hfu hk9; exact absurd hfu (Nat.not_lt_zero _)
        | succ fuel ih =>
          intro p x y J1 hp hx9 hy9 hJ hz hfu hk9
          refine am_iload (q := 127) C dX11_fold_125 rfl rfl ?_
          refine am_iload_n (q := 128) C dX11_fold_127 rfl rfl ?_
          refine am_icmpZ_gt (q := 131) (tgt := 162) C dX11_fold_128 (by decide) rfl ⟨by omega, by omega⟩ ⟨by omega, by omega⟩ (fun g1 => ?_) (fun g1 => ?_)
          · refine am_wkA (L1 := [some (.ref 191), some (.int (iZ (w : Int))), some (.int (iZ (cx : Int))), some (.int (iZ (cy : Int))), some (.int (iZ (p : Int))), some (.int (iZ (x : Int))), none]) ⟨rfl, ⟨rfl, ⟨rfl, ⟨rfl, ⟨rfl, ⟨rfl, trivial⟩⟩⟩⟩⟩⟩ ?_
            exact hk9 _ hJ (fun l x1 y1 g1 g2 g3 g4 => hz l x1 y1 g1 g2 g3 (by omega))
          · refine am_aload_n (q := 132) C dX11_fold_131 rfl rfl ?_
            refine am_getR (q := 135) C fb_X11_62 dX11_fold_132 rfl rfl kk_191 (show 191 < 215 by decide) kr_191_25 ?_
            refine am_iload (q := 137) C dX11_fold_135 rfl rfl ?_
            refine am_iload (q := 139) C dX11_fold_137 rfl rfl ?_
            refine am_iload (q := 141) C dX11_fold_139 rfl rfl ?_
            refine am_callS (q := 144) (As := [.int (iZ (p : Int)), .int (iZ (x : Int)), .int (iZ (y : Int))]) (rest := [.ref 207]) C mb_X11_place st_X11_place ml_X11_171 dX11_fold_141 rfl (sp_X11_place _ _ _) rfl rfl ⟨by decide, by decide⟩ ⟨Nat.le_refl _, Nat.le_refl _⟩ (Nat.le_of_ble_eq_true rfl) (am_rie ?_)
            refine am_aload_n (q := 145) C dX11_fold_144 rfl rfl ?_
            refine am_iload_n (q := 146) C dX11_fold_145 rfl rfl ?_
            refine am_iload (q := 148) C dX11_fold_146 rfl rfl ?_
            refine am_iload (q := 150) C dX11_fold_148 rfl rfl ?_
            refine am_iload (q := 152) C dX11_fold_150 rfl rfl ?_
            refine am_callV (q := 155) (As := [.int (iZ (w : Int)), .int (iZ (p : Int)), .int (iZ (x : Int)), .int (iZ (y : Int))]) (rest := [.int (iZ (((p : Int) * 61 + (y : Int)) * 61 + (x : Int))), .ref 207]) C mb_X11_foldAt im_X11_foldAt se_X11_foldAt ml_X11_211 cb_11 kk_191 (show 191 < 215 by decide) dX11_fold_152 rfl (sp_X11_foldAt (hQ.on rfl rfl rfl rfl (hJ 195 (by decide))) hK (p := p) (w := w) (x := x) (y := y) hp hw3 (by omega) (by omega) (f := Gl w σ.1 (p + 1)) (Gl_ok hK hp) (fun x1 y1 g1 g2 => hz (p + 1) x1 y1 (by omega) (by omega) (by omega) (Or.inl (by omega)))) rfl rfl ⟨by decide, by decide⟩ ⟨Nat.le_refl _, Nat.le_refl _⟩ (Nat.le_of_ble_eq_true rfl) (am_rle ?_)
            refine am_longE (y := enM (Gl w σ.1 p x y)) (by rw [Gl_part w σ.1 hp]) ?_
            refine am_lastoreZ (q := 156) ((p * 61 + y) * 61 + x) C dX11_fold_155 rfl kk_207 (show 207 < 215 by decide) (by omega) (by omega) (by decide) ?_
            refine am_iincZ (q := 159) (L' := [some (.ref 191), some (.int (iZ (w : Int))), some (.int (iZ (cx : Int))), some (.int (iZ (cy : Int))), some (.int (iZ (p : Int))), some (.int (iZ (x : Int))), some (.int (iZ ((y + 1 : Nat) : Int)))]) C dX11_fold_156 rfl rfl (by omega) (by decide) rfl rfl ?_
            refine am_goto (q := 125) C dX11_fold_159 (by decide) ?_
            refine ih p x (y + 1) _ hp hx9 (by omega) (fun h hh => by rw [am_up_row _ _ _ _ hh]; exact hJ h hh) (fun l x1 y1 g1 g2 g3 g4 => ?_) (by omega) hk9
            by_cases e : (l * 61 + y1) * 61 + x1 = (p * 61 + y) * 61 + x
            · have e1 : l = p := by omega
              have e2 : y1 = y := by omega
              have e3 : x1 = x := by omega
              subst e1; subst e2; subst e3
              exact am_up_eq _ _ _ _
            · rw [am_up_ne _ _ _ _ (Or.inr e)]; exact hz l x1 y1 g1 g2 g3 (by omega)
      have y1 : ∀ (fuel : Nat) (p x : Nat) (J1 : Nat → Nat → Int64), (p < pm σ.1) → (x ≤ cx + 1) → (∀ h, h ≠ 207 → J1 h = J h) → (∀ l x1 y1 : Nat, l ≤ pm σ.1 → x1 ≤ cx → y1 ≤ cy → (p < l ∨ l = p ∧ x1 < x) → J1 207 ((l * 61 + y1) * 61 + x1) = enM (Gl w σ.1 l x1 y1)) → (32 - x) < fuel → (∀ (J2 : Nat → Nat → Int64), (∀ h, h ≠ 207 → J2 h = J h) → (∀ l x1 y1 : Nat, l ≤ pm σ.1 → x1 ≤ cx → y1 ≤ cy → (p ≤ l) → J2 207 ((l * 61 + y1) * 61 + x1) = enM (Gl w σ.1 l x1 y1)) → am_A G mX11_fold X (am_rm 3 0 0) 168 [some (.ref 191), some (.int (iZ (w : Int))), some (.int (iZ (cx : Int))), some (.int (iZ (cy : Int))), some (.int (iZ (p : Int))), none, none] [] (215, kK, kR, I, J2) 0 0) → am_A G mX11_fold X (am_rm 3 0 0) 116 [some (.ref 191), some (.int (iZ (w : Int))), some (.int (iZ (cx : Int))), some (.int (iZ (cy : Int))), some (.int (iZ (p : Int))), some (.int (iZ (x : Int))), none] [] (215, kK, kR, I, J1) 0 0 := by
        intro fuel
        induction fuel with
        | zero => intro p x J1 hp hx9 hJ hz hfu hk9; exact absurd hfu (Nat.not_lt_zero _)
        | succ fuel ih =>
          intro p x J1 hp hx9 hJ hz hfu hk9
          refine am_iload (q := 118) C dX11_fold_116 rfl rfl ?_
          refine am_iload_n (q := 119) C dX11_fold_118 rfl rfl ?_
          refine am_icmpZ_gt (q := 122) (tgt := 168) C dX11_fold_119 (by decide) rfl ⟨by omega, by omega⟩ ⟨by omega, by omega⟩ (fun g1 => ?_) (fun g1 => ?_)
          · refine am_wkA (L1 := [some (.ref 191), some (.int (iZ (w : Int))), some (.int (iZ (cx : Int))), some (.int (iZ (cy : Int))), some (.int (iZ (p : Int))), none, none]) ⟨rfl, ⟨rfl, ⟨rfl, ⟨rfl, ⟨rfl, trivial⟩⟩⟩⟩⟩ ?_
            exact hk9 _ hJ (fun l x1 y1 g1 g2 g3 g4 => hz l x1 y1 g1 g2 g3 (by omega))
          · refine am_iconst (q := 123) (v := iZ 0) C dX11_fold_122 rfl rfl ?_
            refine am_istore (q := 125) (L' := [some (.ref 191), some (.int (iZ (w : Int))), some (.int (iZ (cx : Int))), some (.int (iZ (cy : Int))), some (.int (iZ (p : Int))), some (.int (iZ (x : Int))), some (.int (iZ 0))]) C dX11_fold_123 rfl (by decide) rfl rfl ?_
            refine x1 33 p x 0 _ hp (by omega) (by omega) hJ (fun l x1 y1 g1 g2 g3 g4 => hz l x1 y1 g1 g2 g3 (by omega)) (by omega) (fun J2 hJ hz => ?_)
            refine am_iincZ (q := 165) (L' := [some (.ref 191), some (.int (iZ (w : Int))), some (.int (iZ (cx : Int))), some (.int (iZ (cy : Int))), some (.int (iZ (p : Int))), some (.int (iZ ((x + 1 : Nat) : Int))), none]) C dX11_fold_162 rfl rfl (by omega) (by decide) rfl rfl ?_
            refine am_goto (q := 116) C dX11_fold_165 (by decide) ?_
            exact ih p (x + 1) _ hp (by omega) hJ hz (by omega) hk9
      have lp : ∀ (fuel : Nat) (p : Int) (J1 : Nat → Nat → Int64), (-1 ≤ p ∧ p < pm σ.1) → (∀ h, h ≠ 207 → J1 h = J h) → (∀ l x1 y1 : Nat, l ≤ pm σ.1 → x1 ≤ cx → y1 ≤ cy → (p < (l : Int)) → J1 207 ((l * 61 + y1) * 61 + x1) = enM (Gl w σ.1 l x1 y1)) → ((p + 1).toNat) < fuel → am_A G mX11_fold X (am_rm 3 0 0) 108 [some (.ref 191), some (.int (iZ (w : Int))), some (.int (iZ (cx : Int))), some (.int (iZ (cy : Int))), some (.int (iZ p)), none, none] [] (215, kK, kR, I, J1) 0 0 := by
        intro fuel
        induction fuel with
        | zero => intro p J1 hp0 hJ hz hf; exact absurd hf (Nat.not_lt_zero _)
        | succ fuel ih =>
          intro p J1 hp0 hJ hz hf
          refine am_iload (q := 110) C dX11_fold_108 rfl rfl ?_
          refine am_ifZ_lt (q := 113) (tgt := 174) C dX11_fold_110 (by decide) rfl ⟨by omega, by omega⟩ (fun v1 => ?_) (fun v1 => ?_)
          · obtain ⟨vv, hv0⟩ : ∃ vv, Gl w σ.1 0 cx cy = vv := ⟨_, rfl⟩
            refine am_aload_n (q := 175) C dX11_fold_174 rfl rfl ?_
            refine am_getR (q := 178) C fb_X11_62 dX11_fold_175 rfl rfl kk_191 (show 191 < 215 by decide) kr_191_25 ?_
            refine am_iconst (q := 179) (v := iZ 0) C dX11_fold_178 rfl rfl ?_
            refine am_iload_n (q := 180) C dX11_fold_179 rfl rfl ?_
            refine am_iload_n (q := 181) C dX11_fold_180 rfl rfl ?_
            refine am_callS (q := 184) (As := [.int (iZ 0), .int (iZ (cx : Int)), .int (iZ (cy : Int))]) (rest := [.ref 207]) C mb_X11_place st_X11_place ml_X11_171 dX11_fold_181 rfl (sp_X11_place _ _ _) rfl rfl ⟨by decide, by decide⟩ ⟨Nat.le_refl _, Nat.le_refl _⟩ (Nat.le_of_ble_eq_true rfl) (am_rie ?_)
            refine am_laloadZ (q := 185) ((0 * 61 + cy) * 61 + cx) C dX11_fold_184 rfl kk_207 (show 207 < 215 by decide) (by omega) (by omega) (by decide) ?_
            refine am_longE (y := (enM vv)) ((hz 0 cx cy (by omega) (by omega) (by omega) (by omega)).trans (congrArg enM hv0)) ?_
            refine am_lstore (q := 187) (L' := [some (.ref 191), some (.int (iZ (w : Int))), some (.int (iZ (cx : Int))), some (.int (iZ (cy : Int))), some (.long (enM vv)), none, none]) C dX11_fold_185 rfl (by decide) rfl rfl ?_
            refine am_lload (q := 189) C dX11_fold_187 rfl rfl ?_
            refine am_ldc2 (q := 192) C dX11_fold_189 rfl ck_X11_149 ?_
            refine am_lcmp (q := 193) C dX11_fold_192 rfl ?_
            refine am_if_ne (q := 196) (tgt := 210) C dX11_fold_193 (by decide) rfl (fun v2 => ?_) (fun v2 => ?_)
            · have v2 : ¬ (_) := fun z => v2 ((lg_cmp_eq (enM vv) (-1)).mpr z)
              refine am_lload (q := 212) C dX11_fold_210 rfl rfl ?_
              refine am_ldc2 (q := 215) C dX11_fold_212 rfl ck_X11_199 ?_
              refine am_lcmp (q := 216) C dX11_fold_215 rfl ?_
              refine am_if_ne (q := 219) (tgt := 225) C dX11_fold_216 (by decide) rfl (fun v3 => ?_) (fun v3 => ?_)
              · have v3 : ¬ (_) := fun z => v3 ((lg_cmp_eq (enM vv) (-2)).mpr z)
                refine am_lload (q := 227) C dX11_fold_225 rfl rfl ?_
                refine am_lret C T dX11_fold_227 rfl (Nat.le_refl _) (Nat.le_refl _) ⟨_, rfl, ?_⟩
                rw [if_pos (by omega)]
                simp only [Int.toNat_natCast]
                rw [Ff_Fb, show Fb w σ.1 (fO w) 0 (pm σ.1) cx cy = vv from hv0]
                refine ⟨?_, _, _, rfl, hM.scr (atM_J207 (σ := σ) hJ), (atM_J207 (σ := σ) hJ).M⟩
                cases vv with
                | none => exact absurd rfl (by assumption)
                | some a =>
                  rw [foldC_s]
                  by_cases h9 : a < 2 ^ 63
                  · rw [if_pos h9, enM_lt h9]
                  · exact absurd (enM_ge h9) (by assumption)
              · have v3 := (lg_cmp_eq (enM vv) (-2)).mp v3
                refine am_ldc2 (q := 222) C dX11_fold_219 rfl ck_X11_217 ?_
                refine am_goto (q := 227) C dX11_fold_222 (by decide) ?_
                refine am_lret C T dX11_fold_227 rfl (Nat.le_refl _) (Nat.le_refl _) ⟨_, rfl, ?_⟩
                rw [if_pos (by omega)]
                simp only [Int.toNat_natCast]
                rw [Ff_Fb, show Fb w σ.1 (fO w) 0 (pm σ.1) cx cy = vv from hv0]
                refine ⟨?_, _, _, rfl, hM.scr (atM_J207 (σ := σ) hJ), (atM_J207 (σ := σ) hJ).M⟩
                cases vv with
                | none => exact absurd rfl (by assumption)
                | some a =>
                  rw [foldC_s, if_neg (fun h9 => lN_ne_m2 h9 ((enM_lt h9).symm.trans (by assumption)))]
            · have v2 := (lg_cmp_eq (enM vv) (-1)).mp v2
              refine am_iload_n (q := 197) C dX11_fold_196 rfl rfl ?_
              refine am_ifZ_ne (q := 200) (tgt := 204) C dX11_fold_197 (by decide) rfl ⟨by omega, by omega⟩ (fun v4 => ?_) (fun v4 => ?_)
              · refine am_ldc2 (q := 207) C dX11_fold_204 rfl ck_X11_215 ?_
                refine am_goto (q := 227) C dX11_fold_207 (by decide) ?_
                refine am_lret C T dX11_fold_227 rfl (Nat.le_refl _) (Nat.le_refl _) ⟨_, rfl, ?_⟩
                rw [if_pos (by omega)]
                simp only [Int.toNat_natCast]
                rw [Ff_Fb, show Fb w σ.1 (fO w) 0 (pm σ.1) cx cy = vv from hv0]
                refine ⟨?_, _, _, rfl, hM.scr (atM_J207 (σ := σ) hJ), (atM_J207 (σ := σ) hJ).M⟩
                rw [show vv = none from noneM_of (by assumption), foldC_n, if_neg (by omega)]
              · refine am_lconst (q := 201) (v := lN 0) C dX11_fold_200 rfl rfl ?_
                refine am_goto (q := 227) C dX11_fold_201 (by decide) ?_
                refine am_lret C T dX11_fold_227 rfl (Nat.le_refl _) (Nat.le_refl _) ⟨_, rfl, ?_⟩
                rw [if_pos (by omega)]
                simp only [Int.toNat_natCast]
                rw [Ff_Fb, show Fb w σ.1 (fO w) 0 (pm σ.1) cx cy = vv from hv0]
                refine ⟨?_, _, _, rfl, hM.scr (atM_J207 (σ := σ) hJ), (atM_J207 (σ := σ) hJ).M⟩
                rw [show vv = none from noneM_of (by assumption), foldC_n, if_pos (by omega)]; rfl
          · obtain ⟨p, rfl⟩ : ∃ q : Nat, p = q := ⟨p.toNat, by omega⟩
            have hp : p < pm σ.1 := by omega
            refine am_iconst (q := 114) (v := iZ 0) C dX11_fold_113 rfl rfl ?_
            refine am_istore (q := 116) (L' := [some (.ref 191), some (.int (iZ (w : Int))), some (.int (iZ (cx : Int))), some (.int (iZ (cy : Int))), some (.int (iZ (p : Int))), some (.int (iZ 0)), none]) C dX11_fold_114 rfl (by decide) rfl rfl ?_
            refine y1 33 p 0 _ hp (by omega) hJ (fun l x1 y1 g1 g2 g3 g4 => hz l x1 y1 g1 g2 g3 (by omega)) (by omega) (fun J2 hJ hz => ?_)
            refine am_iincZ (q := 171) (L' := [some (.ref 191), some (.int (iZ (w : Int))), some (.int (iZ (cx : Int))), some (.int (iZ (cy : Int))), some (.int (iZ ((p : Int) - 1))), none, none]) C dX11_fold_168 rfl rfl (by omega) (by decide) rfl rfl ?_
            refine am_goto (q := 108) C dX11_fold_171 (by decide) ?_
            exact ih ((p : Int) - 1) _ (by omega) hJ (fun l x1 y1 g1 g2 g3 g4 => hz l x1 y1 g1 g2 g3 (by omega)) (by omega)
      refine am_iconst (q := 24) (v := iZ 0) C dX11_fold_23 rfl rfl ?_
      refine am_istore (q := 26) (L' := [some (.ref 191), some (.int (iZ (w : Int))), some (.int (iZ (cx : Int))), some (.int (iZ (cy : Int))), some (.int (iZ 0)), none, none]) C dX11_fold_24 rfl (by decide) rfl rfl ?_
      refine i2 33 0 J (by omega) (fun h _ => rfl) (fun l x1 y1 g1 g2 g3 g4 => absurd g4 (by omega)) (by omega) (fun J2 hJ hz => ?_)
      refine am_aload_n (q := 101) C dX11_fold_100 rfl rfl ?_
      refine am_getIe (q := 104) (v := (iZ (pm σ.1 : Int))) C fb_X11_86 dX11_fold_101 rfl rfl kk_191 (show 191 < 215 by decide) hQ.1 ?_
      refine am_iconst (q := 105) (v := iZ 1) C dX11_fold_104 rfl rfl ?_
      refine am_isubZ (q := 106) C dX11_fold_105 rfl ?_
      refine am_istore (q := 108) (L' := [some (.ref 191), some (.int (iZ (w : Int))), some (.int (iZ (cx : Int))), some (.int (iZ (cy : Int))), some (.int (iZ ((pm σ.1 : Int) - 1))), none, none]) C dX11_fold_106 rfl (by decide) rfl rfl ?_
      exact lp (pm σ.1 + 2) ((pm σ.1 : Int) - 1) J2 (by omega) hJ (fun l x1 y1 g1 g2 g3 g4 => hz l x1 y1 g1 g2 g3 (by omega)) (by omega)
    · refine am_ldc2 (q := 22) C dX11_fold_19 rfl ck_X11_178 ?_
      refine am_lret C T dX11_fold_22 rfl (Nat.le_refl _) (Nat.le_refl _) ⟨_, rfl, ?_⟩
      rw [if_neg (by omega)]
      exact ⟨rfl, _, _, rfl, hM, frM_refl⟩
