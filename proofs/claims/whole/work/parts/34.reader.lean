variable {G : am_G} {I : Nat → Nat → Int32} {J : Nat → Nat → Int64}
/-- a reader: open, alternatives, together, denied, state, test -/
abbrev RS : Type := Nat × (Nat → Nat) × (Nat → Nat) × (Nat → Bool) × Nat × Nat
def up1 {α : Type} (f : Nat → α) (k : Nat) (v : α) : Nat → α := fun j => if j = k then v else f j
theorem up1_eq {α : Type} (f : Nat → α) (k : Nat) (v : α) : up1 f k v k = v := if_pos rfl
theorem up1_ne {α : Type} (f : Nat → α) {k j : Nat} (v : α) (h : j ≠ k) : up1 f k v j = f j := if_neg h
def lvR (I : Nat → Nat → Int32) (J : Nat → Nat → Int64) (alt tog : Nat → Nat) (den : Nat → Bool) : Prop := ∀ k, k < 5 → J 166 k = lN (alt k) ∧ alt k < 2 ^ 61 ∧ J 167 k = lN (tog k) ∧ tog k < 2 ^ 61 ∧ I 168 k = (if den k then 1 else 0)
def atR (I : Nat → Nat → Int32) (J : Nat → Nat → Int64) (r : RS) : Prop := I 165 3 = iZ (r.1 : Int) ∧ I 165 4 = iZ (r.2.2.2.2.1 : Int) ∧ I 165 5 = iZ (r.2.2.2.2.2 : Int) ∧ r.1 ≤ 4 ∧ r.2.2.2.2.1 ≤ 2 ∧ r.2.2.2.2.2 ≤ 3 ∧ lvR I J r.2.1 r.2.2.1 r.2.2.2.1
theorem atR.on {I I' : Nat → Nat → Int32} {J J' : Nat → Nat → Int64} {r : RS} (h : atR I J r) (h1 : I' 165 = I 165) (h2 : I' 168 = I 168) (h3 : J' 166 = J 166) (h4 : J' 167 = J 167) : atR I' J' r := by unfold atR lvR; rw [h1, h2, h3, h4]; exact h
def rSo (r : RS) : Nat := r.2.1 r.1 ||| r.2.2.1 r.1
def rBeg (v : Nat) (r : RS) : RS := (r.1, up1 r.2.1 r.1 v, up1 r.2.2.1 r.1 anyS, up1 r.2.2.2.1 r.1 false, 0, r.2.2.2.2.2)
def rDeny (r : RS) : RS := (r.1, r.2.1, r.2.2.1, up1 r.2.2.2.1 r.1 (!(r.2.2.2.1 r.1)), r.2.2.2.2.1, r.2.2.2.2.2)
def rHold (s : Nat) (r : RS) : RS := (r.1, r.2.1, up1 r.2.2.1 r.1 (r.2.2.1 r.1 &&& (if r.2.2.2.1 r.1 then anyS - s else s)), up1 r.2.2.2.1 r.1 false, 2, r.2.2.2.2.2)
def psR (ts k n : Nat) : Bool := if ts = 0 then decide (k ≤ n) else if ts = 1 then decide (n ≤ k) else if ts = 2 then decide (0 < n ∧ k % n = 0) else decide (k = n)
def setN (f : Nat → Bool) : Nat → Nat
  | 0 => 0
  | k + 1 => setN f k + if f k then 2 ^ k else 0
theorem setN_lt (f : Nat → Bool) : ∀ k, setN f k < 2 ^ k
  | 0 => by show 0 < 1; decide
  | k + 1 => by
    have h1 := setN_lt f k
    have h2 : 2 ^ (k + 1) = 2 ^ k + 2 ^ k := by rw [Nat.pow_succ]; omega
    have h3 : (if f k then 2 ^ k else 0) ≤ 2 ^ k := by split <;> simp
    rw [h2]; exact Nat.add_lt_add_of_lt_of_le h1 h3
theorem or_pow {s k : Nat} (h : s < 2 ^ k) : s ||| 2 ^ k = s + 2 ^ k := by
  have := Nat.two_pow_add_eq_or_of_lt h 1
  rw [Nat.mul_one] at this
  rw [Nat.or_comm, ← this, Nat.add_comm]
theorem any_not {s : Nat} (h : s < 2 ^ 61) : lN anyS &&& (lN s ^^^ (-1)) = lN (anyS - s) := by
  apply Int64.toBitVec_inj.1
  apply BitVec.eq_of_toNat_eq
  rw [Int64.toBitVec_and, BitVec.toNat_and, Int64.toBitVec_xor]
  have e1 : ((lN s).toBitVec ^^^ (-1 : Int64).toBitVec).toNat = 2 ^ 64 - 1 - s := by
    have : (-1 : Int64).toBitVec = BitVec.allOnes 64 := by decide
    rw [this, BitVec.xor_allOnes, BitVec.toNat_not]
    show 2 ^ 64 - 1 - s % 2 ^ 64 = _
    omega
  rw [e1]
  show (anyS % 2 ^ 64) &&& (2 ^ 64 - 1 - s) = (anyS - s) % 2 ^ 64
  rw [Nat.and_comm, show anyS % 2 ^ 64 = 2 ^ 61 - 1 from rfl, Nat.and_two_pow_sub_one_eq_mod]
  unfold anyS
  omega
theorem shl_one {k : Nat} (h : k ≤ 60) : jshlL (lN 1) (iZ (k : Int)) = lN (2 ^ k) := by
  rw [jshlL_lN 1 (k := (k : Int)) (by omega), Int.toNat_natCast, Nat.one_mul]
set_option maxRecDepth 4000 in
theorem sp_X6_isLevel {r : RS} (hR : atR I J r) : am_S G mX6_isLevel 1 0 0 [.ref 165] (215, kK, kR, I, J) (am_fi 1 (215, kK, kR, I, J)) := by
  have hR9 := hR
  obtain ⟨op, alt, tog, den, sta, ts⟩ := r
  obtain ⟨r1, r2, r3, r4, r5, r6, r7⟩ := hR
  dsimp only at r1 r2 r3 r4 r5 r6 r7
  refine am_spec (plainFor_of_name (by decide +kernel)) (Nat.le_of_ble_eq_true rfl) (L := [some (.ref 165)]) rfl (fun X C T => ?_)
  refine am_aload_n (q := 1) C dX6_isLevel_0 rfl rfl ?_
  refine am_getIe (q := 4) (v := (iZ (op : Int))) C fb_X6_22 dX6_isLevel_1 rfl rfl kk_165 (show 165 < 215 by decide) r1 ?_
  refine am_ifZ_lt (q := 7) (tgt := 19) C dX6_isLevel_4 (by decide) rfl ⟨by omega, by omega⟩ (fun c1 => ?_) (fun c1 => ?_)
  · refine am_iconst (q := 20) (v := iZ 0) C dX6_isLevel_19 rfl rfl ?_
    refine am_zretB (b := false) C T dX6_isLevel_20 rfl (Nat.le_refl _) (Nat.le_refl _) rfl ⟨_, rfl, ?_⟩
    exfalso; omega
  · refine am_aload_n (q := 8) C dX6_isLevel_7 rfl rfl ?_
    refine am_getIe (q := 11) (v := (iZ (op : Int))) C fb_X6_22 dX6_isLevel_8 rfl rfl kk_165 (show 165 < 215 by decide) r1 ?_
    refine am_iconst (q := 12) (v := iZ 4) C dX6_isLevel_11 rfl rfl ?_
    refine am_icmpZ_gt (q := 15) (tgt := 19) C dX6_isLevel_12 (by decide) rfl ⟨by omega, by omega⟩ ⟨by omega, by omega⟩ (fun c2 => ?_) (fun c2 => ?_)
    · refine am_iconst (q := 20) (v := iZ 0) C dX6_isLevel_19 rfl rfl ?_
      refine am_zretB (b := false) C T dX6_isLevel_20 rfl (Nat.le_refl _) (Nat.le_refl _) rfl ⟨_, rfl, ?_⟩
      exfalso; omega
    · refine am_iconst (q := 16) (v := iZ 1) C dX6_isLevel_15 rfl rfl ?_
      refine am_goto (q := 20) C dX6_isLevel_16 (by decide) ?_
      refine am_zretB (b := true) C T dX6_isLevel_20 rfl (Nat.le_refl _) (Nat.le_refl _) rfl ⟨_, rfl, ?_⟩
      exact ⟨rfl, rfl⟩
set_option maxRecDepth 4000 in
theorem sp_X6_soFar {r : RS} (hR : atR I J r) : am_S G mX6_soFar 2 0 0 [.ref 165] (215, kK, kR, I, J) (am_fl (lN (rSo r)) (215, kK, kR, I, J)) := by
  have hR9 := hR
  obtain ⟨op, alt, tog, den, sta, ts⟩ := r
  obtain ⟨r1, r2, r3, r4, r5, r6, r7⟩ := hR
  dsimp only at r1 r2 r3 r4 r5 r6 r7
  refine am_spec (plainFor_of_name (by decide +kernel)) (Nat.le_of_ble_eq_true rfl) (L := [some (.ref 165)]) rfl (fun X C T => ?_)
  refine am_aload_n (q := 1) C dX6_soFar_0 rfl rfl ?_
  refine am_callV (q := 4) (As := []) (rest := []) C mb_X6_isLevel im_X6_isLevel se_X6_isLevel ml_X6_117 cb_6 kk_165 (show 165 < 215 by decide) dX6_soFar_1 rfl (sp_X6_isLevel hR9) rfl rfl ⟨by decide, by decide⟩ ⟨Nat.le_refl _, Nat.le_refl _⟩ (Nat.le_of_ble_eq_true rfl) (am_rie ?_)
  refine am_intE (y := iZ 1) rfl ?_
  refine am_ifZ_eq (q := 7) (tgt := 29) C dX6_soFar_4 (by decide) rfl ⟨by omega, by omega⟩ (fun c1 => ?_) (fun c1 => ?_)
  · exact absurd c1 (by decide)
  · refine am_aload_n (q := 8) C dX6_soFar_7 rfl rfl ?_
    refine am_getR (q := 11) C fb_X6_9 dX6_soFar_8 rfl rfl kk_165 (show 165 < 215 by decide) kr_165_0 ?_
    refine am_aload_n (q := 12) C dX6_soFar_11 rfl rfl ?_
    refine am_getIe (q := 15) (v := (iZ (op : Int))) C fb_X6_22 dX6_soFar_12 rfl rfl kk_165 (show 165 < 215 by decide) r1 ?_
    refine am_laloadZ (q := 16) op C dX6_soFar_15 rfl kk_166 (show 166 < 215 by decide) rfl (by omega) (by decide) ?_
    refine am_longE (y := (lN (alt op))) (r7 op (by omega)).1 ?_
    refine am_aload_n (q := 17) C dX6_soFar_16 rfl rfl ?_
    refine am_getR (q := 20) C fb_X6_15 dX6_soFar_17 rfl rfl kk_165 (show 165 < 215 by decide) kr_165_1 ?_
    refine am_aload_n (q := 21) C dX6_soFar_20 rfl rfl ?_
    refine am_getIe (q := 24) (v := (iZ (op : Int))) C fb_X6_22 dX6_soFar_21 rfl rfl kk_165 (show 165 < 215 by decide) r1 ?_
    refine am_laloadZ (q := 25) op C dX6_soFar_24 rfl kk_167 (show 167 < 215 by decide) rfl (by omega) (by decide) ?_
    refine am_longE (y := (lN (tog op))) (r7 op (by omega)).2.2.1 ?_
    refine am_lor (q := 26) C dX6_soFar_25 rfl ?_
    refine am_longE (y := (lN (alt op ||| tog op))) (wb_or (by have := (r7 op (by omega)).2.1; omega) (by have := (r7 op (by omega)).2.2.2.1; omega)) ?_
    refine am_goto (q := 30) C dX6_soFar_26 (by decide) ?_
    refine am_lret C T dX6_soFar_30 rfl (Nat.le_refl _) (Nat.le_refl _) ⟨_, rfl, ?_⟩
    exact ⟨rfl, rfl⟩
set_option maxRecDepth 4000 in
theorem sp_X6_begin {r : RS} (hR : atR I J r) {v : Nat} (hv : v < 2 ^ 61) : am_S G mX6_begin 2 0 0 [.ref 165, .long (lN v)] (215, kK, kR, I, J) (am_qv (fun w' => ∃ (I' : Nat → Nat → Int32) (J' : Nat → Nat → Int64), w' = (215, kK, kR, I', J') ∧ atR I' J' (rBeg v r) ∧ (∀ h, h ≠ 165 → h ≠ 168 → I' h = I h) ∧ (∀ k, k < 3 ∨ 5 < k → I' 165 k = I 165 k) ∧ ∀ h, h ≠ 166 → h ≠ 167 → J' h = J h)) := by
  have hR9 := hR
  obtain ⟨op, alt, tog, den, sta, ts⟩ := r
  obtain ⟨r1, r2, r3, r4, r5, r6, r7⟩ := hR
  dsimp only at r1 r2 r3 r4 r5 r6 r7
  refine am_spec (plainFor_of_name (by decide +kernel)) (Nat.le_of_ble_eq_true rfl) (L := [some (.ref 165), some (.long (lN v)), none]) rfl (fun X C T => ?_)
  refine am_aload_n (q := 1) C dX6_begin_0 rfl rfl ?_
  refine am_callV (q := 4) (As := []) (rest := []) C mb_X6_isLevel im_X6_isLevel se_X6_isLevel ml_X6_117 cb_6 kk_165 (show 165 < 215 by decide) dX6_begin_1 rfl (sp_X6_isLevel hR9) rfl rfl ⟨by decide, by decide⟩ ⟨Nat.le_refl _, Nat.le_refl _⟩ (Nat.le_of_ble_eq_true rfl) (am_rie ?_)
  refine am_intE (y := iZ 1) rfl ?_
  refine am_ifZ_eq (q := 7) (tgt := 39) C dX6_begin_4 (by decide) rfl ⟨by omega, by omega⟩ (fun c1 => ?_) (fun c1 => ?_)
  · exact absurd c1 (by decide)
  · refine am_aload_n (q := 8) C dX6_begin_7 rfl rfl ?_
    refine am_getR (q := 11) C fb_X6_9 dX6_begin_8 rfl rfl kk_165 (show 165 < 215 by decide) kr_165_0 ?_
    refine am_aload_n (q := 12) C dX6_begin_11 rfl rfl ?_
    refine am_getIe (q := 15) (v := (iZ (op : Int))) C fb_X6_22 dX6_begin_12 rfl rfl kk_165 (show 165 < 215 by decide) r1 ?_
    refine am_lload_n (q := 16) C dX6_begin_15 rfl rfl ?_
    refine am_lastoreZ (q := 17) op C dX6_begin_16 rfl kk_166 (show 166 < 215 by decide) rfl (by omega) (by decide) ?_
    refine am_aload_n (q := 18) C dX6_begin_17 rfl rfl ?_
    refine am_getR (q := 21) C fb_X6_15 dX6_begin_18 rfl rfl kk_165 (show 165 < 215 by decide) kr_165_1 ?_
    refine am_aload_n (q := 22) C dX6_begin_21 rfl rfl ?_
    refine am_getIe (q := 25) (v := (iZ (op : Int))) C fb_X6_22 dX6_begin_22 rfl rfl kk_165 (show 165 < 215 by decide) r1 ?_
    refine am_ldc2 (q := 28) C dX6_begin_25 rfl ck_X6_32 ?_
    refine am_longE (y := lN 2305843009213693951) rfl ?_
    refine am_lastoreZ (q := 29) op C dX6_begin_28 rfl kk_167 (show 167 < 215 by decide) rfl (by omega) (by decide) ?_
    refine am_aload_n (q := 30) C dX6_begin_29 rfl rfl ?_
    refine am_getR (q := 33) C fb_X6_18 dX6_begin_30 rfl rfl kk_165 (show 165 < 215 by decide) kr_165_2 ?_
    refine am_aload_n (q := 34) C dX6_begin_33 rfl rfl ?_
    refine am_getIe (q := 37) (v := (iZ (op : Int))) C fb_X6_22 dX6_begin_34 rfl rfl kk_165 (show 165 < 215 by decide) r1 ?_
    refine am_iconst (q := 38) (v := iZ 0) C dX6_begin_37 rfl rfl ?_
    refine am_zastoreZ (q := 39) op C dX6_begin_38 rfl kk_168 (show 168 < 215 by decide) rfl (by omega) (by decide) ?_
    refine am_aload_n (q := 40) C dX6_begin_39 rfl rfl ?_
    refine am_iconst (q := 41) (v := iZ 0) C dX6_begin_40 rfl rfl ?_
    refine am_putI (q := 44) C fw_X6_26 dX6_begin_41 rfl rfl kk_165 (show 165 < 215 by decide) ?_
    refine am_vret C T dX6_begin_44 rfl (Nat.le_refl _) (Nat.le_refl _) ⟨rfl, ?_⟩
    refine ⟨_, _, rfl, ⟨?_, ?_, ?_, r4, ?_, r6, fun k hk => ?_⟩, fun h h1 h2 => ?_, fun k hk => ?_, fun h h1 h2 => ?_⟩
    · simp [am_up]; exact r1
    · simp [am_up]; first | rfl | exact r2
    · simp [am_up]; exact r3
    · first | exact r5 | exact Nat.le_of_ble_eq_true rfl
    · obtain ⟨q1, q2, q3, q4, q5⟩ := r7 k hk
      by_cases e : k = op
      · subst e
        refine ⟨by simp [am_up, rBeg, up1], by simp [rBeg, up1]; exact hv, ?_, by simp [rBeg, up1, anyS], by simp [am_up, rBeg, up1]; rfl⟩
        simp [am_up, rBeg, up1]; rfl
      · refine ⟨?_, ?_, ?_, ?_, ?_⟩
        · simp [am_up, e, rBeg, rDeny, rHold, up1]; exact q1
        · simp [e, rBeg, rDeny, rHold, up1]; exact q2
        · simp [am_up, e, rBeg, rDeny, rHold, up1]; exact q3
        · simp [e, rBeg, rDeny, rHold, up1]; exact q4
        · simp [am_up, e, rBeg, rDeny, rHold, up1]; exact q5
    · repeat (first | rw [am_up_row _ _ _ _ h1] | rw [am_up_row _ _ _ _ h2])
    · first | rfl | (simp [am_up]; done) | (simp [am_up]; omega)
    · first | rfl | (repeat (first | rw [am_up_row _ _ _ _ h1] | rw [am_up_row _ _ _ _ h2]))
set_option maxRecDepth 4000 in
theorem sp_X6_deny {r : RS} (hR : atR I J r) : am_S G mX6_deny 2 0 0 [.ref 165] (215, kK, kR, I, J) (am_qv (fun w' => ∃ (I' : Nat → Nat → Int32) (J' : Nat → Nat → Int64), w' = (215, kK, kR, I', J') ∧ atR I' J' (rDeny r) ∧ (∀ h, h ≠ 165 → h ≠ 168 → I' h = I h) ∧ (∀ k, k < 3 ∨ 5 < k → I' 165 k = I 165 k) ∧ ∀ h, h ≠ 166 → h ≠ 167 → J' h = J h)) := by
  have hR9 := hR
  obtain ⟨op, alt, tog, den, sta, ts⟩ := r
  obtain ⟨r1, r2, r3, r4, r5, r6, r7⟩ := hR
  dsimp only at r1 r2 r3 r4 r5 r6 r7
  refine am_spec (plainFor_of_name (by decide +kernel)) (Nat.le_of_ble_eq_true rfl) (L := [some (.ref 165)]) rfl (fun X C T => ?_)
  refine am_aload_n (q := 1) C dX6_deny_0 rfl rfl ?_
  refine am_callV (q := 4) (As := []) (rest := []) C mb_X6_isLevel im_X6_isLevel se_X6_isLevel ml_X6_117 cb_6 kk_165 (show 165 < 215 by decide) dX6_deny_1 rfl (sp_X6_isLevel hR9) rfl rfl ⟨by decide, by decide⟩ ⟨Nat.le_refl _, Nat.le_refl _⟩ (Nat.le_of_ble_eq_true rfl) (am_rie ?_)
  refine am_intE (y := iZ 1) rfl ?_
  refine am_ifZ_eq (q := 7) (tgt := 33) C dX6_deny_4 (by decide) rfl ⟨by omega, by omega⟩ (fun c1 => ?_) (fun c1 => ?_)
  · exact absurd c1 (by decide)
  · refine am_aload_n (q := 8) C dX6_deny_7 rfl rfl ?_
    refine am_getR (q := 11) C fb_X6_18 dX6_deny_8 rfl rfl kk_165 (show 165 < 215 by decide) kr_165_2 ?_
    refine am_aload_n (q := 12) C dX6_deny_11 rfl rfl ?_
    refine am_getIe (q := 15) (v := (iZ (op : Int))) C fb_X6_22 dX6_deny_12 rfl rfl kk_165 (show 165 < 215 by decide) r1 ?_
    refine am_aload_n (q := 16) C dX6_deny_15 rfl rfl ?_
    refine am_getR (q := 19) C fb_X6_18 dX6_deny_16 rfl rfl kk_165 (show 165 < 215 by decide) kr_165_2 ?_
    refine am_aload_n (q := 20) C dX6_deny_19 rfl rfl ?_
    refine am_getIe (q := 23) (v := (iZ (op : Int))) C fb_X6_22 dX6_deny_20 rfl rfl kk_165 (show 165 < 215 by decide) r1 ?_
    refine am_zaloadZ (q := 24) op C dX6_deny_23 rfl kk_168 (show 168 < 215 by decide) rfl (by omega) (by decide) ?_
    refine am_intE (y := (if den op = true then 1 else 0)) (r7 op (by omega)).2.2.2.2 ?_
    refine am_ifB_ne (q := 27) (tgt := 31) C dX6_deny_24 (by decide) rfl (fun c2 => ?_) (fun c2 => ?_)
    · refine am_iconst (q := 32) (v := iZ 0) C dX6_deny_31 rfl rfl ?_
      refine am_zastoreZ (q := 33) op C dX6_deny_32 rfl kk_168 (show 168 < 215 by decide) rfl (by omega) (by decide) ?_
      refine am_vret C T dX6_deny_33 rfl (Nat.le_refl _) (Nat.le_refl _) ⟨rfl, ?_⟩
      refine ⟨_, _, rfl, ⟨?_, ?_, ?_, r4, ?_, r6, fun k hk => ?_⟩, fun h h1 h2 => ?_, fun k hk => ?_, fun h h1 h2 => ?_⟩
      · simp [am_up]; exact r1
      · simp [am_up]; first | rfl | exact r2
      · simp [am_up]; exact r3
      · first | exact r5 | exact Nat.le_of_ble_eq_true rfl
      · obtain ⟨q1, q2, q3, q4, q5⟩ := r7 k hk
        by_cases e : k = op
        · subst e
          refine ⟨q1, q2, q3, q4, ?_⟩
          simp [am_up, rDeny, up1, *]; first | rfl | decide
        · refine ⟨?_, ?_, ?_, ?_, ?_⟩
          · simp [am_up, e, rBeg, rDeny, rHold, up1]; exact q1
          · simp [e, rBeg, rDeny, rHold, up1]; exact q2
          · simp [am_up, e, rBeg, rDeny, rHold, up1]; exact q3
          · simp [e, rBeg, rDeny, rHold, up1]; exact q4
          · simp [am_up, e, rBeg, rDeny, rHold, up1]; exact q5
      · repeat (first | rw [am_up_row _ _ _ _ h1] | rw [am_up_row _ _ _ _ h2])
      · first | rfl | (simp [am_up]; done) | (simp [am_up]; omega)
      · first | rfl | (repeat (first | rw [am_up_row _ _ _ _ h1] | rw [am_up_row _ _ _ _ h2]))
    · refine am_iconst (q := 28) (v := iZ 1) C dX6_deny_27 rfl rfl ?_
      refine am_goto (q := 32) C dX6_deny_28 (by decide) ?_
      refine am_zastoreZ (q := 33) op C dX6_deny_32 rfl kk_168 (show 168 < 215 by decide) rfl (by omega) (by decide) ?_
      refine am_vret C T dX6_deny_33 rfl (Nat.le_refl _) (Nat.le_refl _) ⟨rfl, ?_⟩
      refine ⟨_, _, rfl, ⟨?_, ?_, ?_, r4, ?_, r6, fun k hk => ?_⟩, fun h h1 h2 => ?_, fun k hk => ?_, fun h h1 h2 => ?_⟩
      · simp [am_up]; exact r1
      · simp [am_up]; first | rfl | exact r2
      · simp [am_up]; exact r3
      · first | exact r5 | exact Nat.le_of_ble_eq_true rfl
      · obtain ⟨q1, q2, q3, q4, q5⟩ := r7 k hk
        by_cases e : k = op
        · subst e
          refine ⟨q1, q2, q3, q4, ?_⟩
          simp [am_up, rDeny, up1, *]; first | rfl | decide
        · refine ⟨?_, ?_, ?_, ?_, ?_⟩
          · simp [am_up, e, rBeg, rDeny, rHold, up1]; exact q1
          · simp [e, rBeg, rDeny, rHold, up1]; exact q2
          · simp [am_up, e, rBeg, rDeny, rHold, up1]; exact q3
          · simp [e, rBeg, rDeny, rHold, up1]; exact q4
          · simp [am_up, e, rBeg, rDeny, rHold, up1]; exact q5
      · repeat (first | rw [am_up_row _ _ _ _ h1] | rw [am_up_row _ _ _ _ h2])
      · first | rfl | (simp [am_up]; done) | (simp [am_up]; omega)
      · first | rfl | (repeat (first | rw [am_up_row _ _ _ _ h1] | rw [am_up_row _ _ _ _ h2]))
set_option maxRecDepth 4000 in
theorem sp_X6_hold {r : RS} (hR : atR I J r) {s : Nat} (hs : s < 2 ^ 61) : am_S G mX6_hold 2 0 0 [.ref 165, .long (lN s)] (215, kK, kR, I, J) (am_qv (fun w' => ∃ (I' : Nat → Nat → Int32) (J' : Nat → Nat → Int64), w' = (215, kK, kR, I', J') ∧ atR I' J' (rHold s r) ∧ (∀ h, h ≠ 165 → h ≠ 168 → I' h = I h) ∧ (∀ k, k < 3 ∨ 5 < k → I' 165 k = I 165 k) ∧ ∀ h, h ≠ 166 → h ≠ 167 → J' h = J h)) := by
  have hR9 := hR
  obtain ⟨op, alt, tog, den, sta, ts⟩ := r
  obtain ⟨r1, r2, r3, r4, r5, r6, r7⟩ := hR
  dsimp only at r1 r2 r3 r4 r5 r6 r7
  refine am_spec (plainFor_of_name (by decide +kernel)) (Nat.le_of_ble_eq_true rfl) (L := [some (.ref 165), some (.long (lN s)), none]) rfl (fun X C T => ?_)
  refine am_aload_n (q := 1) C dX6_hold_0 rfl rfl ?_
  refine am_callV (q := 4) (As := []) (rest := []) C mb_X6_isLevel im_X6_isLevel se_X6_isLevel ml_X6_117 cb_6 kk_165 (show 165 < 215 by decide) dX6_hold_1 rfl (sp_X6_isLevel hR9) rfl rfl ⟨by decide, by decide⟩ ⟨Nat.le_refl _, Nat.le_refl _⟩ (Nat.le_of_ble_eq_true rfl) (am_rie ?_)
  refine am_intE (y := iZ 1) rfl ?_
  refine am_ifZ_eq (q := 7) (tgt := 54) C dX6_hold_4 (by decide) rfl ⟨by omega, by omega⟩ (fun c1 => ?_) (fun c1 => ?_)
  · exact absurd c1 (by decide)
  · refine am_aload_n (q := 8) C dX6_hold_7 rfl rfl ?_
    refine am_getR (q := 11) C fb_X6_15 dX6_hold_8 rfl rfl kk_165 (show 165 < 215 by decide) kr_165_1 ?_
    refine am_aload_n (q := 12) C dX6_hold_11 rfl rfl ?_
    refine am_getIe (q := 15) (v := (iZ (op : Int))) C fb_X6_22 dX6_hold_12 rfl rfl kk_165 (show 165 < 215 by decide) r1 ?_
    refine am_dup2 (q := 16) C dX6_hold_15 rfl rfl rfl ?_
    refine am_laloadZ (q := 17) op C dX6_hold_16 rfl kk_167 (show 167 < 215 by decide) rfl (by omega) (by decide) ?_
    refine am_longE (y := (lN (tog op))) (r7 op (by omega)).2.2.1 ?_
    refine am_aload_n (q := 18) C dX6_hold_17 rfl rfl ?_
    refine am_getR (q := 21) C fb_X6_18 dX6_hold_18 rfl rfl kk_165 (show 165 < 215 by decide) kr_165_2 ?_
    refine am_aload_n (q := 22) C dX6_hold_21 rfl rfl ?_
    refine am_getIe (q := 25) (v := (iZ (op : Int))) C fb_X6_22 dX6_hold_22 rfl rfl kk_165 (show 165 < 215 by decide) r1 ?_
    refine am_zaloadZ (q := 26) op C dX6_hold_25 rfl kk_168 (show 168 < 215 by decide) rfl (by omega) (by decide) ?_
    refine am_intE (y := (if den op = true then 1 else 0)) (r7 op (by omega)).2.2.2.2 ?_
    refine am_ifB_eq (q := 29) (tgt := 41) C dX6_hold_26 (by decide) rfl (fun c2 => ?_) (fun c2 => ?_)
    · refine am_lload_n (q := 42) C dX6_hold_41 rfl rfl ?_
      refine am_land (q := 43) C dX6_hold_42 rfl ?_
      refine am_longE (y := (lN (tog op &&& s))) (wb_and (by have := (r7 op (by omega)).2.2.2.1; omega) (by first | omega | (unfold anyS; omega))) ?_
      refine am_lastoreZ (q := 44) op C dX6_hold_43 rfl kk_167 (show 167 < 215 by decide) rfl (by omega) (by decide) ?_
      refine am_aload_n (q := 45) C dX6_hold_44 rfl rfl ?_
      refine am_getR (q := 48) C fb_X6_18 dX6_hold_45 rfl rfl kk_165 (show 165 < 215 by decide) kr_165_2 ?_
      refine am_aload_n (q := 49) C dX6_hold_48 rfl rfl ?_
      refine am_getIe (q := 52) (v := (iZ (op : Int))) C fb_X6_22 dX6_hold_49 rfl rfl kk_165 (show 165 < 215 by decide) r1 ?_
      refine am_iconst (q := 53) (v := iZ 0) C dX6_hold_52 rfl rfl ?_
      refine am_zastoreZ (q := 54) op C dX6_hold_53 rfl kk_168 (show 168 < 215 by decide) rfl (by omega) (by decide) ?_
      refine am_aload_n (q := 55) C dX6_hold_54 rfl rfl ?_
      refine am_iconst (q := 56) (v := iZ 2) C dX6_hold_55 rfl rfl ?_
      refine am_putI (q := 59) C fw_X6_26 dX6_hold_56 rfl rfl kk_165 (show 165 < 215 by decide) ?_
      refine am_vret C T dX6_hold_59 rfl (Nat.le_refl _) (Nat.le_refl _) ⟨rfl, ?_⟩
      refine ⟨_, _, rfl, ⟨?_, ?_, ?_, r4, ?_, r6, fun k hk => ?_⟩, fun h h1 h2 => ?_, fun k hk => ?_, fun h h1 h2 => ?_⟩
      · simp [am_up]; exact r1
      · simp [am_up]; first | rfl | exact r2
      · simp [am_up]; exact r3
      · first | exact r5 | exact Nat.le_of_ble_eq_true rfl
      · obtain ⟨q1, q2, q3, q4, q5⟩ := r7 k hk
        by_cases e : k = op
        · subst e
          refine ⟨by simp [am_up, rHold]; exact q1, by simp [rHold]; exact q2, ?_, ?_, by simp [am_up, rHold, up1]; rfl⟩
          · simp [am_up, rHold, up1, *]
          · simp only [rHold, up1_eq]; exact Nat.lt_of_le_of_lt Nat.and_le_left q4
        · refine ⟨?_, ?_, ?_, ?_, ?_⟩
          · simp [am_up, e, rBeg, rDeny, rHold, up1]; exact q1
          · simp [e, rBeg, rDeny, rHold, up1]; exact q2
          · simp [am_up, e, rBeg, rDeny, rHold, up1]; exact q3
          · simp [e, rBeg, rDeny, rHold, up1]; exact q4
          · simp [am_up, e, rBeg, rDeny, rHold, up1]; exact q5
      · repeat (first | rw [am_up_row _ _ _ _ h1] | rw [am_up_row _ _ _ _ h2])
      · first | rfl | (simp [am_up]; done) | (simp [am_up]; omega)
      · first | rfl | (repeat (first | rw [am_up_row _ _ _ _ h1] | rw [am_up_row _ _ _ _ h2]))
    · refine am_ldc2 (q := 32) C dX6_hold_29 rfl ck_X6_32 ?_
      refine am_longE (y := lN 2305843009213693951) rfl ?_
      refine am_lload_n (q := 33) C dX6_hold_32 rfl rfl ?_
      refine am_ldc2 (q := 36) C dX6_hold_33 rfl ck_X6_120 ?_
      refine am_lxor (q := 37) C dX6_hold_36 rfl ?_
      refine am_land (q := 38) C dX6_hold_37 rfl ?_
      refine am_longE (y := (lN (anyS - s))) (any_not hs) ?_
      refine am_goto (q := 42) C dX6_hold_38 (by decide) ?_
      refine am_land (q := 43) C dX6_hold_42 rfl ?_
      refine am_longE (y := (lN (tog op &&& (anyS - s)))) (wb_and (by have := (r7 op (by omega)).2.2.2.1; omega) (by first | omega | (unfold anyS; omega))) ?_
      refine am_lastoreZ (q := 44) op C dX6_hold_43 rfl kk_167 (show 167 < 215 by decide) rfl (by omega) (by decide) ?_
      refine am_aload_n (q := 45) C dX6_hold_44 rfl rfl ?_
      refine am_getR (q := 48) C fb_X6_18 dX6_hold_45 rfl rfl kk_165 (show 165 < 215 by decide) kr_165_2 ?_
      refine am_aload_n (q := 49) C dX6_hold_48 rfl rfl ?_
      refine am_getIe (q := 52) (v := (iZ (op : Int))) C fb_X6_22 dX6_hold_49 rfl rfl kk_165 (show 165 < 215 by decide) r1 ?_
      refine am_iconst (q := 53) (v := iZ 0) C dX6_hold_52 rfl rfl ?_
      refine am_zastoreZ (q := 54) op C dX6_hold_53 rfl kk_168 (show 168 < 215 by decide) rfl (by omega) (by decide) ?_
      refine am_aload_n (q := 55) C dX6_hold_54 rfl rfl ?_
      refine am_iconst (q := 56) (v := iZ 2) C dX6_hold_55 rfl rfl ?_
      refine am_putI (q := 59) C fw_X6_26 dX6_hold_56 rfl rfl kk_165 (show 165 < 215 by decide) ?_
      refine am_vret C T dX6_hold_59 rfl (Nat.le_refl _) (Nat.le_refl _) ⟨rfl, ?_⟩
      refine ⟨_, _, rfl, ⟨?_, ?_, ?_, r4, ?_, r6, fun k hk => ?_⟩, fun h h1 h2 => ?_, fun k hk => ?_, fun h h1 h2 => ?_⟩
      · simp [am_up]; exact r1
      · simp [am_up]; first | rfl | exact r2
      · simp [am_up]; exact r3
      · first | exact r5 | exact Nat.le_of_ble_eq_true rfl
      · obtain ⟨q1, q2, q3, q4, q5⟩ := r7 k hk
        by_cases e : k = op
        · subst e
          refine ⟨by simp [am_up, rHold]; exact q1, by simp [rHold]; exact q2, ?_, ?_, by simp [am_up, rHold, up1]; rfl⟩
          · simp [am_up, rHold, up1, *]
          · simp only [rHold, up1_eq]; exact Nat.lt_of_le_of_lt Nat.and_le_left q4
        · refine ⟨?_, ?_, ?_, ?_, ?_⟩
          · simp [am_up, e, rBeg, rDeny, rHold, up1]; exact q1
          · simp [e, rBeg, rDeny, rHold, up1]; exact q2
          · simp [am_up, e, rBeg, rDeny, rHold, up1]; exact q3
          · simp [e, rBeg, rDeny, rHold, up1]; exact q4
          · simp [am_up, e, rBeg, rDeny, rHold, up1]; exact q5
      · repeat (first | rw [am_up_row _ _ _ _ h1] | rw [am_up_row _ _ _ _ h2])
      · first | rfl | (simp [am_up]; done) | (simp [am_up]; omega)
      · first | rfl | (repeat (first | rw [am_up_row _ _ _ _ h1] | rw [am_up_row _ _ _ _ h2]))
set_option maxRecDepth 4000 in
theorem sp_X6_passes {r : RS} (hR : atR I J r) {k n : Nat} (hk : k ≤ 60) (hn : n ≤ 99) : am_S G mX6_passes 1 0 0 [.ref 165, .int (iZ (k : Int)), .int (iZ (n : Int))] (215, kK, kR, I, J) (am_fi (if psR r.2.2.2.2.2 k n then 1 else 0) (215, kK, kR, I, J)) := by
  have hR9 := hR
  obtain ⟨op, alt, tog, den, sta, ts⟩ := r
  obtain ⟨r1, r2, r3, r4, r5, r6, r7⟩ := hR
  dsimp only at r1 r2 r3 r4 r5 r6 r7
  refine am_spec (plainFor_of_name (by decide +kernel)) (Nat.le_of_ble_eq_true rfl) (L := [some (.ref 165), some (.int (iZ (k : Int))), some (.int (iZ (n : Int)))]) rfl (fun X C T => ?_)
  refine am_aload_n (q := 1) C dX6_passes_0 rfl rfl ?_
  refine am_getIe (q := 4) (v := (iZ (ts : Int))) C fb_X6_29 dX6_passes_1 rfl rfl kk_165 (show 165 < 215 by decide) r3 ?_
  rcases (show ((ts : Int) < 0 ∨ 2 < (ts : Int)) ∨ (ts : Int) = 0 ∨ (ts : Int) = 1 ∨ (ts : Int) = 2 by omega) with c1 | c1 | c1 | c1
  · refine am_tableOut (q := 70) C dX6_passes_4 (by rw [iZ_toInt ⟨by omega, by omega⟩]; omega) (by decide) ?_
    refine am_iload_n (q := 71) C dX6_passes_70 rfl rfl ?_
    refine am_iload_n (q := 72) C dX6_passes_71 rfl rfl ?_
    refine am_icmpZ_ne (q := 75) (tgt := 79) C dX6_passes_72 (by decide) rfl ⟨by omega, by omega⟩ ⟨by omega, by omega⟩ (fun c2 => ?_) (fun c2 => ?_)
    · refine am_iconst (q := 80) (v := iZ 0) C dX6_passes_79 rfl rfl ?_
      refine am_zretB (b := false) C T dX6_passes_80 rfl (Nat.le_refl _) (Nat.le_refl _) rfl ⟨_, rfl, ?_⟩
      refine ⟨?_, rfl⟩
      have hq : psR ts k n = false := by
        unfold psR
        first | (rw [if_pos (by omega)]; exact decide_eq_false (by omega)) | (rw [if_neg (by omega), if_pos (by omega)]; exact decide_eq_false (by omega)) | (rw [if_neg (by omega), if_neg (by omega), if_pos (by omega)]; exact decide_eq_false (by omega)) | (rw [if_neg (by omega), if_neg (by omega), if_neg (by omega)]; exact decide_eq_false (by omega))
      show _ = if psR ts k n = true then (1 : Int32) else 0
      rw [hq]; rfl
    · refine am_iconst (q := 76) (v := iZ 1) C dX6_passes_75 rfl rfl ?_
      refine am_goto (q := 80) C dX6_passes_76 (by decide) ?_
      refine am_zretB (b := true) C T dX6_passes_80 rfl (Nat.le_refl _) (Nat.le_refl _) rfl ⟨_, rfl, ?_⟩
      refine ⟨?_, rfl⟩
      have hq : psR ts k n = true := by
        unfold psR
        first | (rw [if_pos (by omega)]; exact decide_eq_true (by omega)) | (rw [if_neg (by omega), if_pos (by omega)]; exact decide_eq_true (by omega)) | (rw [if_neg (by omega), if_neg (by omega), if_pos (by omega)]; exact decide_eq_true (by omega)) | (rw [if_neg (by omega), if_neg (by omega), if_neg (by omega)]; exact decide_eq_true (by omega))
      show _ = if psR ts k n = true then (1 : Int32) else 0
      rw [hq]; rfl
  · refine am_tableIn (q := 32) (off := 28) C dX6_passes_4 (by rw [iZ_toInt ⟨by omega, by omega⟩]; omega) (by rw [iZ_toInt ⟨by omega, by omega⟩]; omega) (by rw [iZ_toInt ⟨by omega, by omega⟩, c1]; rfl) (by decide) ?_
    refine am_iload_n (q := 33) C dX6_passes_32 rfl rfl ?_
    refine am_iload_n (q := 34) C dX6_passes_33 rfl rfl ?_
    refine am_icmpZ_gt (q := 37) (tgt := 41) C dX6_passes_34 (by decide) rfl ⟨by omega, by omega⟩ ⟨by omega, by omega⟩ (fun c3 => ?_) (fun c3 => ?_)
    · refine am_iconst (q := 42) (v := iZ 0) C dX6_passes_41 rfl rfl ?_
      refine am_zretB (b := false) C T dX6_passes_42 rfl (Nat.le_refl _) (Nat.le_refl _) rfl ⟨_, rfl, ?_⟩
      refine ⟨?_, rfl⟩
      have hq : psR ts k n = false := by
        unfold psR
        first | (rw [if_pos (by omega)]; exact decide_eq_false (by omega)) | (rw [if_neg (by omega), if_pos (by omega)]; exact decide_eq_false (by omega)) | (rw [if_neg (by omega), if_neg (by omega), if_pos (by omega)]; exact decide_eq_false (by omega)) | (rw [if_neg (by omega), if_neg (by omega), if_neg (by omega)]; exact decide_eq_false (by omega))
      show _ = if psR ts k n = true then (1 : Int32) else 0
      rw [hq]; rfl
    · refine am_iconst (q := 38) (v := iZ 1) C dX6_passes_37 rfl rfl ?_
      refine am_goto (q := 42) C dX6_passes_38 (by decide) ?_
      refine am_zretB (b := true) C T dX6_passes_42 rfl (Nat.le_refl _) (Nat.le_refl _) rfl ⟨_, rfl, ?_⟩
      refine ⟨?_, rfl⟩
      have hq : psR ts k n = true := by
        unfold psR
        first | (rw [if_pos (by omega)]; exact decide_eq_true (by omega)) | (rw [if_neg (by omega), if_pos (by omega)]; exact decide_eq_true (by omega)) | (rw [if_neg (by omega), if_neg (by omega), if_pos (by omega)]; exact decide_eq_true (by omega)) | (rw [if_neg (by omega), if_neg (by omega), if_neg (by omega)]; exact decide_eq_true (by omega))
      show _ = if psR ts k n = true then (1 : Int32) else 0
      rw [hq]; rfl
  · refine am_tableIn (q := 43) (off := 39) C dX6_passes_4 (by rw [iZ_toInt ⟨by omega, by omega⟩]; omega) (by rw [iZ_toInt ⟨by omega, by omega⟩]; omega) (by rw [iZ_toInt ⟨by omega, by omega⟩, c1]; rfl) (by decide) ?_
    refine am_iload_n (q := 44) C dX6_passes_43 rfl rfl ?_
    refine am_iload_n (q := 45) C dX6_passes_44 rfl rfl ?_
    refine am_icmpZ_lt (q := 48) (tgt := 52) C dX6_passes_45 (by decide) rfl ⟨by omega, by omega⟩ ⟨by omega, by omega⟩ (fun c4 => ?_) (fun c4 => ?_)
    · refine am_iconst (q := 53) (v := iZ 0) C dX6_passes_52 rfl rfl ?_
      refine am_zretB (b := false) C T dX6_passes_53 rfl (Nat.le_refl _) (Nat.le_refl _) rfl ⟨_, rfl, ?_⟩
      refine ⟨?_, rfl⟩
      have hq : psR ts k n = false := by
        unfold psR
        first | (rw [if_pos (by omega)]; exact decide_eq_false (by omega)) | (rw [if_neg (by omega), if_pos (by omega)]; exact decide_eq_false (by omega)) | (rw [if_neg (by omega), if_neg (by omega), if_pos (by omega)]; exact decide_eq_false (by omega)) | (rw [if_neg (by omega), if_neg (by omega), if_neg (by omega)]; exact decide_eq_false (by omega))
      show _ = if psR ts k n = true then (1 : Int32) else 0
      rw [hq]; rfl
    · refine am_iconst (q := 49) (v := iZ 1) C dX6_passes_48 rfl rfl ?_
      refine am_goto (q := 53) C dX6_passes_49 (by decide) ?_
      refine am_zretB (b := true) C T dX6_passes_53 rfl (Nat.le_refl _) (Nat.le_refl _) rfl ⟨_, rfl, ?_⟩
      refine ⟨?_, rfl⟩
      have hq : psR ts k n = true := by
        unfold psR
        first | (rw [if_pos (by omega)]; exact decide_eq_true (by omega)) | (rw [if_neg (by omega), if_pos (by omega)]; exact decide_eq_true (by omega)) | (rw [if_neg (by omega), if_neg (by omega), if_pos (by omega)]; exact decide_eq_true (by omega)) | (rw [if_neg (by omega), if_neg (by omega), if_neg (by omega)]; exact decide_eq_true (by omega))
      show _ = if psR ts k n = true then (1 : Int32) else 0
      rw [hq]; rfl
  · refine am_tableIn (q := 54) (off := 50) C dX6_passes_4 (by rw [iZ_toInt ⟨by omega, by omega⟩]; omega) (by rw [iZ_toInt ⟨by omega, by omega⟩]; omega) (by rw [iZ_toInt ⟨by omega, by omega⟩, c1]; rfl) (by decide) ?_
    refine am_iload_n (q := 55) C dX6_passes_54 rfl rfl ?_
    refine am_ifZ_le (q := 58) (tgt := 68) C dX6_passes_55 (by decide) rfl ⟨by omega, by omega⟩ (fun c5 => ?_) (fun c5 => ?_)
    · refine am_iconst (q := 69) (v := iZ 0) C dX6_passes_68 rfl rfl ?_
      refine am_zretB (b := false) C T dX6_passes_69 rfl (Nat.le_refl _) (Nat.le_refl _) rfl ⟨_, rfl, ?_⟩
      refine ⟨?_, rfl⟩
      have hq : psR ts k n = false := by
        unfold psR
        first | (rw [if_pos (by omega)]; exact decide_eq_false (by omega)) | (rw [if_neg (by omega), if_pos (by omega)]; exact decide_eq_false (by omega)) | (rw [if_neg (by omega), if_neg (by omega), if_pos (by omega)]; exact decide_eq_false (by omega)) | (rw [if_neg (by omega), if_neg (by omega), if_neg (by omega)]; exact decide_eq_false (by omega))
      show _ = if psR ts k n = true then (1 : Int32) else 0
      rw [hq]; rfl
    · refine am_iload_n (q := 59) C dX6_passes_58 rfl rfl ?_
      refine am_iload_n (q := 60) C dX6_passes_59 rfl rfl ?_
      refine am_iremZ (q := 61) C dX6_passes_60 rfl ⟨by omega, by omega⟩ ⟨by omega, by omega⟩ (by omega) (by omega) ?_
      refine am_intE (y := (iZ ((k % n : Nat) : Int))) rfl ?_
      refine am_ifZ_ne (q := 64) (tgt := 68) C dX6_passes_61 (by decide) rfl ⟨by have := Nat.mod_le k n; omega, by have := Nat.mod_le k n; omega⟩ (fun c6 => ?_) (fun c6 => ?_)
      · refine am_iconst (q := 69) (v := iZ 0) C dX6_passes_68 rfl rfl ?_
        refine am_zretB (b := false) C T dX6_passes_69 rfl (Nat.le_refl _) (Nat.le_refl _) rfl ⟨_, rfl, ?_⟩
        refine ⟨?_, rfl⟩
        have hq : psR ts k n = false := by
          unfold psR
          first | (rw [if_pos (by omega)]; exact decide_eq_false (by omega)) | (rw [if_neg (by omega), if_pos (by omega)]; exact decide_eq_false (by omega)) | (rw [if_neg (by omega), if_neg (by omega), if_pos (by omega)]; exact decide_eq_false (by omega)) | (rw [if_neg (by omega), if_neg (by omega), if_neg (by omega)]; exact decide_eq_false (by omega))
        show _ = if psR ts k n = true then (1 : Int32) else 0
        rw [hq]; rfl
      · refine am_iconst (q := 65) (v := iZ 1) C dX6_passes_64 rfl rfl ?_
        refine am_goto (q := 69) C dX6_passes_65 (by decide) ?_
        refine am_zretB (b := true) C T dX6_passes_69 rfl (Nat.le_refl _) (Nat.le_refl _) rfl ⟨_, rfl, ?_⟩
        refine ⟨?_, rfl⟩
        have hq : psR ts k n = true := by
          unfold psR
          first | (rw [if_pos (by omega)]; exact decide_eq_true (by omega)) | (rw [if_neg (by omega), if_pos (by omega)]; exact decide_eq_true (by omega)) | (rw [if_neg (by omega), if_neg (by omega), if_pos (by omega)]; exact decide_eq_true (by omega)) | (rw [if_neg (by omega), if_neg (by omega), if_neg (by omega)]; exact decide_eq_true (by omega))
        show _ = if psR ts k n = true then (1 : Int32) else 0
        rw [hq]; rfl
set_option maxRecDepth 4000 in
theorem sp_X6_setOf {r : RS} (hR : atR I J r) {n : Nat} (hn : n ≤ 99) : am_S G mX6_setOf 2 0 0 [.ref 165, .int (iZ (n : Int))] (215, kK, kR, I, J) (am_fl (lN (setN (fun k => psR r.2.2.2.2.2 k n) 61)) (215, kK, kR, I, J)) := by
  refine am_spec (plainFor_of_name (by decide +kernel)) (Nat.le_of_ble_eq_true rfl) (L := [some (.ref 165), some (.int (iZ (n : Int))), none, none, none]) rfl (fun X C T => ?_)
  have lp : ∀ (fuel : Nat) (k : Nat), (k ≤ 61) → (61 - k) < fuel → am_A G mX6_setOf X (am_rm 2 0 0) 5 [some (.ref 165), some (.int (iZ (n : Int))), some (.long (lN (setN (fun k => psR r.2.2.2.2.2 k n) k))), none, some (.int (iZ (k : Int)))] [] (215, kK, kR, I, J) 0 0 := by
    intro fuel
    induction fuel with
    | zero => intro k hk hf; exact absurd hf (Nat.not_lt_zero _)
    | succ fuel ih =>
      intro k hk hf
      refine am_iload (q := 7) C dX6_setOf_5 rfl rfl ?_
      refine am_bipush (q := 9) (v := iZ 60) C dX6_setOf_7 rfl rfl ?_
      refine am_icmpZ_gt (q := 12) (tgt := 35) C dX6_setOf_9 (by decide) rfl ⟨by omega, by omega⟩ ⟨by omega, by omega⟩ (fun c1 => ?_) (fun c1 => ?_)
      · refine am_lload_n (q := 36) C dX6_setOf_35 rfl rfl ?_
        refine am_lret C T dX6_setOf_36 rfl (Nat.le_refl _) (Nat.le_refl _) ⟨_, rfl, ?_⟩
        rw [show k = 61 by omega]; exact ⟨rfl, rfl⟩
      · refine am_aload_n (q := 13) C dX6_setOf_12 rfl rfl ?_
        refine am_iload (q := 15) C dX6_setOf_13 rfl rfl ?_
        refine am_iload_n (q := 16) C dX6_setOf_15 rfl rfl ?_
        refine am_callV (q := 19) (As := [.int (iZ (k : Int)), .int (iZ (n : Int))]) (rest := []) C mb_X6_passes im_X6_passes se_X6_passes ml_X6_122 cb_6 kk_165 (show 165 < 215 by decide) dX6_setOf_16 rfl (sp_X6_passes hR (k := k) (n := n) (by omega) hn) rfl rfl ⟨by decide, by decide⟩ ⟨Nat.le_refl _, Nat.le_refl _⟩ (Nat.le_of_ble_eq_true rfl) (am_rie ?_)
        refine am_ifB_eq (q := 22) (tgt := 29) C dX6_setOf_19 (by decide) rfl (fun c2 => ?_) (fun c2 => ?_)
        · refine am_iincZ (q := 32) (L' := [some (.ref 165), some (.int (iZ (n : Int))), some (.long (lN (setN (fun k => psR r.2.2.2.2.2 k n) k))), none, some (.int (iZ ((k + 1 : Nat) : Int)))]) C dX6_setOf_29 rfl rfl (by omega) (by decide) rfl rfl ?_
          refine am_goto (q := 5) C dX6_setOf_32 (by decide) ?_
          have hst : setN (fun k => psR r.2.2.2.2.2 k n) (k + 1) = setN (fun k => psR r.2.2.2.2.2 k n) k := by
            show _ + (if psR r.2.2.2.2.2 k n = true then _ else 0) = _
            rw [if_neg (by assumption)]; rfl
          have k9 := ih (k + 1) (by omega) (by omega)
          rw [hst] at k9
          exact k9
        · refine am_lload_n (q := 23) C dX6_setOf_22 rfl rfl ?_
          refine am_lconst (q := 24) (v := lN 1) C dX6_setOf_23 rfl rfl ?_
          refine am_iload (q := 26) C dX6_setOf_24 rfl rfl ?_
          refine am_lshl (q := 27) C dX6_setOf_26 rfl ?_
          refine am_longE (y := (lN (2 ^ k))) (shl_one (by omega)) ?_
          refine am_lor (q := 28) C dX6_setOf_27 rfl ?_
          refine am_longE (y := (lN (setN (fun k => psR r.2.2.2.2.2 k n) k + 2 ^ k))) (by rw [wb_or (by have := setN_lt (fun k => psR r.2.2.2.2.2 k n) k; have := Nat.pow_le_pow_right (show 1 ≤ 2 by decide) (show k ≤ 61 by omega); omega) (by have := Nat.pow_le_pow_right (show 1 ≤ 2 by decide) (show k ≤ 61 by omega); omega), or_pow (setN_lt _ _)]) ?_
          refine am_lstore_n (q := 29) (L' := [some (.ref 165), some (.int (iZ (n : Int))), some (.long (lN (setN (fun k => psR r.2.2.2.2.2 k n) k + 2 ^ k))), none, some (.int (iZ (k : Int)))]) C dX6_setOf_28 rfl (by decide) rfl rfl ?_
          refine am_iincZ (q := 32) (L' := [some (.ref 165), some (.int (iZ (n : Int))), some (.long (lN (setN (fun k => psR r.2.2.2.2.2 k n) k + 2 ^ k))), none, some (.int (iZ ((k + 1 : Nat) : Int)))]) C dX6_setOf_29 rfl rfl (by omega) (by decide) rfl rfl ?_
          refine am_goto (q := 5) C dX6_setOf_32 (by decide) ?_
          have hst : setN (fun k => psR r.2.2.2.2.2 k n) (k + 1) = setN (fun k => psR r.2.2.2.2.2 k n) k + 2 ^ k := by
            show _ + (if psR r.2.2.2.2.2 k n = true then _ else 0) = _
            rw [if_pos (by assumption)]
          have k9 := ih (k + 1) (by omega) (by omega)
          rw [hst] at k9
          exact k9
  refine am_lconst (q := 1) (v := lN 0) C dX6_setOf_0 rfl rfl ?_
  refine am_lstore_n (q := 2) (L' := [some (.ref 165), some (.int (iZ (n : Int))), some (.long (lN 0)), none, none]) C dX6_setOf_1 rfl (by decide) rfl rfl ?_
  refine am_iconst (q := 3) (v := iZ 0) C dX6_setOf_2 rfl rfl ?_
  refine am_istore (q := 5) (L' := [some (.ref 165), some (.int (iZ (n : Int))), some (.long (lN 0)), none, some (.int (iZ 0))]) C dX6_setOf_3 rfl (by decide) rfl rfl ?_
  exact lp 62 0 (by omega) (by omega)
