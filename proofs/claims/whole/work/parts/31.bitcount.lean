variable {G : am_G} {I : Nat → Nat → Int32} {J : Nat → Nat → Int64}
/-- how many of the lowest n bits are 1 -/
def ons : Nat → Nat → Nat
  | 0, _ => 0
  | n + 1, x => x % 2 + ons n (x / 2)
def rp (m : Nat) : Nat → Nat
  | 0 => 0
  | n + 1 => m + 256 * rp m n
theorem and_b {b m : Nat} (hb : b < 256) (hm : m < 256) (y z : Nat) : (b + 256 * y) &&& (m + 256 * z) = (b &&& m) + 256 * (y &&& z) := by
  apply Nat.eq_of_testBit_eq
  intro j
  have e1 : b &&& m < 2 ^ 8 := Nat.lt_of_le_of_lt Nat.and_le_left hb
  rw [Nat.testBit_and, Nat.add_comm b, Nat.add_comm m, Nat.add_comm (b &&& m), show 256 = 2 ^ 8 from rfl, Nat.testBit_two_pow_mul_add _ hb, Nat.testBit_two_pow_mul_add _ hm, Nat.testBit_two_pow_mul_add _ e1]
  by_cases h : j < 8
  · rw [if_pos h, if_pos h, if_pos h, Nat.testBit_and]
  · rw [if_neg h, if_neg h, if_neg h, Nat.testBit_and]
def s1 (n x : Nat) : Nat := x - ((x / 2) &&& rp 85 n)
def s2 (n x : Nat) : Nat := (x &&& rp 51 n) + ((x / 4) &&& rp 51 n)
def s3 (n x : Nat) : Nat := (x + x / 16) &&& rp 15 n
def b1 (b : Nat) : Nat := b - ((b / 2) &&& 85)
def b2 (b : Nat) : Nat := (b &&& 51) + ((b / 4) &&& 51)
def b3 (b : Nat) : Nat := (b + b / 16) &&& 15
theorem b_half : ∀ b, b < 256 → ∀ c, c < 2 → (b / 2 + 128 * c) &&& 85 = (b / 2) &&& 85 := by decide +kernel
theorem b_quar : ∀ b, b < 256 → ∀ c, c < 4 → (b / 4 + 64 * c) &&& 51 = (b / 4) &&& 51 := by decide +kernel
theorem b_lt1 : ∀ b, b < 256 → b1 b < 256 ∧ b2 (b1 b) < 69 ∧ b2 (b1 b) % 16 ≤ 4 ∧ b3 (b2 (b1 b)) = ons 8 b ∧ ons 8 b ≤ 8 := by decide +kernel
theorem b_16 : ∀ b, b < 69 → ∀ c, c < 5 → (b + b / 16 + 16 * c) &&& 15 = (b + b / 16) &&& 15 := by decide +kernel
theorem s1_step (n : Nat) {b : Nat} (hb : b < 256) (y : Nat) : s1 (n + 1) (b + 256 * y) = b1 b + 256 * s1 n y := by
  unfold s1 b1
  show _ - (_ &&& (85 + 256 * rp 85 n)) = _
  rw [show (b + 256 * y) / 2 = (b / 2 + 128 * (y % 2)) + 256 * (y / 2) by omega, and_b (by omega) (by decide), b_half b hb _ (by omega)]
  have h1 : (b / 2) &&& 85 ≤ b / 2 := Nat.and_le_left
  have h2 : (y / 2) &&& rp 85 n ≤ y / 2 := Nat.and_le_left
  omega
theorem s2_step (n : Nat) {b : Nat} (hb : b < 256) (y : Nat) : s2 (n + 1) (b + 256 * y) = b2 b + 256 * s2 n y := by
  unfold s2 b2
  show (_ &&& (51 + 256 * rp 51 n)) + (_ &&& (51 + 256 * rp 51 n)) = _
  rw [show (b + 256 * y) / 4 = (b / 4 + 64 * (y % 4)) + 256 * (y / 4) by omega, and_b hb (by decide), and_b (by omega) (by decide), b_quar b hb _ (by omega)]
  omega
theorem s3_step (n : Nat) {b : Nat} (hb : b < 69) {y : Nat} (hy : y % 16 ≤ 4) : s3 (n + 1) (b + 256 * y) = b3 b + 256 * s3 n y := by
  unfold s3 b3
  show (_ &&& (15 + 256 * rp 15 n)) = _
  rw [show b + 256 * y + (b + 256 * y) / 16 = (b + b / 16 + 16 * (y % 16)) + 256 * (y + y / 16) by omega, and_b (by omega) (by decide), b_16 b hb _ (by omega)]
theorem s2_16 : ∀ n y, s2 n (s1 n y) % 16 ≤ 4
  | 0, y => by
    have : s2 0 (s1 0 y) = 0 := by unfold s2; show (_ &&& 0) + (_ &&& 0) = 0; simp
    rw [this]; decide
  | n + 1, y => by
    have e : y = y % 256 + 256 * (y / 256) := by omega
    rw [e, s1_step n (by omega), s2_step n (b_lt1 _ (by omega)).1]
    have := (b_lt1 (y % 256) (by omega)).2.2.1
    omega
theorem T_step (n : Nat) {b : Nat} (hb : b < 256) (y : Nat) : s3 (n + 1) (s2 (n + 1) (s1 (n + 1) (b + 256 * y))) = ons 8 b + 256 * s3 n (s2 n (s1 n y)) := by
  have h := b_lt1 b hb
  rw [s1_step n hb, s2_step n h.1, s3_step n h.2.1 (s2_16 n y), h.2.2.2.1]
theorem ons_add : ∀ m k x, ons (m + k) x = ons m (x % 2 ^ m) + ons k (x / 2 ^ m)
  | 0, k, x => by rw [Nat.zero_add, Nat.pow_zero, Nat.div_one]; show _ = 0 + _; omega
  | m + 1, k, x => by
    rw [show m + 1 + k = (m + k) + 1 by omega]
    show x % 2 + ons (m + k) (x / 2) = (x % 2 ^ (m + 1) % 2 + ons m (x % 2 ^ (m + 1) / 2)) + _
    rw [ons_add m k (x / 2), Nat.pow_succ, Nat.mul_comm (2 ^ m) 2, Nat.div_div_eq_div_mul, Nat.mod_mul_right_div_self, Nat.mod_mul_right_mod]
    omega
theorem ons8 (k x : Nat) : ons (8 + k) x = ons 8 (x % 256) + ons k (x / 256) := ons_add 8 k x
def byt (x i : Nat) : Nat := ons 8 (x / 256 ^ i % 256)
theorem T_end (x : Nat) : s3 0 (s2 0 (s1 0 x)) = 0 := by unfold s3; show _ &&& 0 = 0; simp
theorem T_next (n x : Nat) : s3 (n + 1) (s2 (n + 1) (s1 (n + 1) x)) = ons 8 (x % 256) + 256 * s3 n (s2 n (s1 n (x / 256))) := by
  have e : x = x % 256 + 256 * (x / 256) := by omega
  have := T_step n (show x % 256 < 256 by omega) (x / 256)
  rw [← e] at this; exact this
theorem swar_sum {p0 p1 p2 p3 p4 p5 p6 p7 X x1 x2 x3 : Nat} (h0 : p0 ≤ 8) (h1 : p1 ≤ 8) (h2 : p2 ≤ 8) (h3 : p3 ≤ 8) (h4 : p4 ≤ 8) (h5 : p5 ≤ 8) (h6 : p6 ≤ 8) (h7 : p7 ≤ 8) (hX : X = p0 + 256 * (p1 + 256 * (p2 + 256 * (p3 + 256 * (p4 + 256 * (p5 + 256 * (p6 + 256 * (p7 + 256 * 0)))))))) (e1 : x1 = X + X / 256) (e2 : x2 = x1 + x1 / 65536) (e3 : x3 = x2 + x2 / 4294967296) : x3 % 128 = p0 + p1 + p2 + p3 + p4 + p5 + p6 + p7 := by
  have h2' : ∀ a b c d : Nat, (a + 256 * b) + (c + 256 * d) = (a + c) + 256 * (b + d) := fun a b c d => by omega
  have dv : ∀ a b : Nat, a < 256 → (a + 256 * b) / 256 = b := fun a b h => by omega
  rw [hX, dv _ _ (by omega)] at e1
  simp only [h2', Nat.add_zero] at e1
  rw [e1, show (65536 : Nat) = 256 * 256 from rfl, ← Nat.div_div_eq_div_mul, dv _ _ (by omega), dv _ _ (by omega)] at e2
  simp only [h2', Nat.add_zero] at e2
  rw [e2, show (4294967296 : Nat) = 256 * 256 * 256 * 256 from rfl, ← Nat.div_div_eq_div_mul, ← Nat.div_div_eq_div_mul, ← Nat.div_div_eq_div_mul, dv _ _ (by omega), dv _ _ (by omega), dv _ _ (by omega), dv _ _ (by omega)] at e3
  simp only [h2', Nat.add_zero] at e3
  rw [e3]
  clear e1 e2 e3 hX
  have : ∀ a R : Nat, a < 128 → (a + 256 * R) % 128 = a := fun a R h => by omega
  rw [this _ _ (by omega)]
  omega
theorem ons64 (x : Nat) : ons 64 x = ons 8 (x % 256) + ons 8 (x / 256 % 256) + ons 8 (x / 256 / 256 % 256) + ons 8 (x / 256 / 256 / 256 % 256) + ons 8 (x / 256 / 256 / 256 / 256 % 256) + ons 8 (x / 256 / 256 / 256 / 256 / 256 % 256) + ons 8 (x / 256 / 256 / 256 / 256 / 256 / 256 % 256) + ons 8 (x / 256 / 256 / 256 / 256 / 256 / 256 / 256 % 256) := by
  rw [show (64 : Nat) = 8 + 56 from rfl, ons8, show (56 : Nat) = 8 + 48 from rfl, ons8, show (48 : Nat) = 8 + 40 from rfl, ons8, show (40 : Nat) = 8 + 32 from rfl, ons8, show (32 : Nat) = 8 + 24 from rfl, ons8, show (24 : Nat) = 8 + 16 from rfl, ons8, show (16 : Nat) = 8 + 8 from rfl, ons8]
  rw [show ons 8 (x / 256 / 256 / 256 / 256 / 256 / 256 / 256) = ons 8 (x / 256 / 256 / 256 / 256 / 256 / 256 / 256 % 256) from ons8 0 _]
  omega
theorem swar (x : Nat) {X x1 x2 x3 : Nat} (hX : X = s3 8 (s2 8 (s1 8 x))) (e1 : x1 = X + X / 256) (e2 : x2 = x1 + x1 / 65536) (e3 : x3 = x2 + x2 / 4294967296) : x3 % 128 = ons 64 x := by
  rw [T_next, T_next, T_next, T_next, T_next, T_next, T_next, T_next, T_end] at hX
  have L := fun y => (b_lt1 (y % 256) (Nat.mod_lt _ (by decide))).2.2.2.2
  rw [ons64]
  exact swar_sum (L _) (L _) (L _) (L _) (L _) (L _) (L _) (L _) hX e1 e2 e3
theorem and_127 (n : Nat) : n &&& 127 = n % 128 := Nat.and_two_pow_sub_one_eq_mod n 7
theorem s1_le (n x : Nat) : s1 n x ≤ x := Nat.sub_le _ _
theorem bc_end {n k : Nat} (h : n % 128 = k) : nI n &&& (iZ 127) = iZ (k : Int) := by
  rw [← h, ← iZ_nI, show (iZ 127) = nI 127 from rfl]
  apply Int32.toBitVec_inj.1
  apply BitVec.eq_of_toNat_eq
  rw [Int32.toBitVec_and, BitVec.toNat_and]
  show (n % 2 ^ 32) &&& 127 = (n % 128) % 2 ^ 32
  rw [and_127]; omega
set_option maxRecDepth 4000 in
theorem sp_bitCount {s : Nat} (hs : s < 2 ^ 61) : am_S G mJ13_bitCount_95d88 1 0 0 [.long (lN s)] (215, kK, kR, I, J) (am_fi (iZ (ons 64 s : Int)) (215, kK, kR, I, J)) := by
  refine am_spec (plainFor_of_name (by decide +kernel)) (Nat.le_of_ble_eq_true rfl) (L := [some (.long (lN s)), none]) rfl (fun X C T => ?_)
  obtain ⟨xa, hxa⟩ : ∃ z, z = s3 8 (s2 8 (s1 8 s)) + s3 8 (s2 8 (s1 8 s)) / 256 := ⟨_, rfl⟩
  obtain ⟨xb, hxb⟩ : ∃ z, z = xa + xa / 65536 := ⟨_, rfl⟩
  obtain ⟨xc, hxc⟩ : ∃ z, z = xb + xb / 4294967296 := ⟨_, rfl⟩
  have hs1 := s1_le 8 s
  have hr51 : rp 51 8 < 2 ^ 62 := by decide
  have hr15 : rp 15 8 < 2 ^ 60 := by decide
  have k1 : s1 8 s &&& rp 51 8 ≤ rp 51 8 := Nat.and_le_right
  have k2 : s1 8 s / 4 &&& rp 51 8 ≤ rp 51 8 := Nat.and_le_right
  have hs2 : s2 8 (s1 8 s) < 2 ^ 63 := by unfold s2; omega
  have k3 : s3 8 (s2 8 (s1 8 s)) ≤ rp 15 8 := Nat.and_le_right
  refine am_lload_n (q := 1) C dJ13_bitCount_95d88_0 rfl rfl ?_
  refine am_lload_n (q := 2) C dJ13_bitCount_95d88_1 rfl rfl ?_
  refine am_iconst (q := 3) (v := iZ 1) C dJ13_bitCount_95d88_2 rfl rfl ?_
  refine am_lushr (q := 4) C dJ13_bitCount_95d88_3 rfl ?_
  refine am_longE (y := (lN (s / 2))) (jushrL_lN (s := s) (k := 1) (by omega) (by decide)) ?_
  refine am_ldc2 (q := 7) C dJ13_bitCount_95d88_4 rfl ck_J13_314 ?_
  refine am_longE (y := lN 6148914691236517205) rfl ?_
  refine am_land (q := 8) C dJ13_bitCount_95d88_7 rfl ?_
  refine am_longE (y := (lN (s / 2 &&& rp 85 8))) (wb_and (by omega) (by omega)) ?_
  refine am_lsub (q := 9) C dJ13_bitCount_95d88_8 rfl ?_
  refine am_longE (y := (lN (s1 8 s))) (lN_sub (Nat.le_trans Nat.and_le_left (Nat.div_le_self _ _))) ?_
  refine am_lstore_n (q := 10) (L' := [some (.long (lN (s1 8 s))), none]) C dJ13_bitCount_95d88_9 rfl (by decide) rfl rfl ?_
  refine am_lload_n (q := 11) C dJ13_bitCount_95d88_10 rfl rfl ?_
  refine am_ldc2 (q := 14) C dJ13_bitCount_95d88_11 rfl ck_J13_316 ?_
  refine am_longE (y := lN 3689348814741910323) rfl ?_
  refine am_land (q := 15) C dJ13_bitCount_95d88_14 rfl ?_
  refine am_longE (y := (lN (s1 8 s &&& rp 51 8))) (wb_and (by omega) (by omega)) ?_
  refine am_lload_n (q := 16) C dJ13_bitCount_95d88_15 rfl rfl ?_
  refine am_iconst (q := 17) (v := iZ 2) C dJ13_bitCount_95d88_16 rfl rfl ?_
  refine am_lushr (q := 18) C dJ13_bitCount_95d88_17 rfl ?_
  refine am_longE (y := (lN (s1 8 s / 4))) (jushrL_lN (s := s1 8 s) (k := 2) (by omega) (by decide)) ?_
  refine am_ldc2 (q := 21) C dJ13_bitCount_95d88_18 rfl ck_J13_316 ?_
  refine am_longE (y := lN 3689348814741910323) rfl ?_
  refine am_land (q := 22) C dJ13_bitCount_95d88_21 rfl ?_
  refine am_longE (y := (lN (s1 8 s / 4 &&& rp 51 8))) (wb_and (by omega) (by omega)) ?_
  refine am_ladd (q := 23) C dJ13_bitCount_95d88_22 rfl ?_
  refine am_longE (lN_add _ _) ?_
  refine am_longE (y := (lN (s2 8 (s1 8 s)))) rfl ?_
  refine am_lstore_n (q := 24) (L' := [some (.long (lN (s2 8 (s1 8 s)))), none]) C dJ13_bitCount_95d88_23 rfl (by decide) rfl rfl ?_
  refine am_lload_n (q := 25) C dJ13_bitCount_95d88_24 rfl rfl ?_
  refine am_lload_n (q := 26) C dJ13_bitCount_95d88_25 rfl rfl ?_
  refine am_iconst (q := 27) (v := iZ 4) C dJ13_bitCount_95d88_26 rfl rfl ?_
  refine am_lushr (q := 28) C dJ13_bitCount_95d88_27 rfl ?_
  refine am_longE (y := (lN (s2 8 (s1 8 s) / 16))) (jushrL_lN (s := s2 8 (s1 8 s)) (k := 4) (by omega) (by decide)) ?_
  refine am_ladd (q := 29) C dJ13_bitCount_95d88_28 rfl ?_
  refine am_longE (lN_add _ _) ?_
  refine am_ldc2 (q := 32) C dJ13_bitCount_95d88_29 rfl ck_J13_318 ?_
  refine am_longE (y := lN 1085102592571150095) rfl ?_
  refine am_land (q := 33) C dJ13_bitCount_95d88_32 rfl ?_
  refine am_longE (y := (lN (s3 8 (s2 8 (s1 8 s))))) (wb_and (by omega) (by omega)) ?_
  refine am_lstore_n (q := 34) (L' := [some (.long (lN (s3 8 (s2 8 (s1 8 s))))), none]) C dJ13_bitCount_95d88_33 rfl (by decide) rfl rfl ?_
  refine am_lload_n (q := 35) C dJ13_bitCount_95d88_34 rfl rfl ?_
  refine am_lload_n (q := 36) C dJ13_bitCount_95d88_35 rfl rfl ?_
  refine am_bipush (q := 38) (v := iZ 8) C dJ13_bitCount_95d88_36 rfl rfl ?_
  refine am_lushr (q := 39) C dJ13_bitCount_95d88_38 rfl ?_
  refine am_longE (y := (lN (s3 8 (s2 8 (s1 8 s)) / 256))) (jushrL_lN (s := s3 8 (s2 8 (s1 8 s))) (k := 8) (by omega) (by decide)) ?_
  refine am_ladd (q := 40) C dJ13_bitCount_95d88_39 rfl ?_
  refine am_longE (lN_add _ _) ?_
  refine am_longE (y := (lN xa)) (congrArg lN hxa.symm) ?_
  refine am_lstore_n (q := 41) (L' := [some (.long (lN xa)), none]) C dJ13_bitCount_95d88_40 rfl (by decide) rfl rfl ?_
  refine am_lload_n (q := 42) C dJ13_bitCount_95d88_41 rfl rfl ?_
  refine am_lload_n (q := 43) C dJ13_bitCount_95d88_42 rfl rfl ?_
  refine am_bipush (q := 45) (v := iZ 16) C dJ13_bitCount_95d88_43 rfl rfl ?_
  refine am_lushr (q := 46) C dJ13_bitCount_95d88_45 rfl ?_
  refine am_longE (y := (lN (xa / 65536))) (jushrL_lN (s := xa) (k := 16) (by omega) (by decide)) ?_
  refine am_ladd (q := 47) C dJ13_bitCount_95d88_46 rfl ?_
  refine am_longE (lN_add _ _) ?_
  refine am_longE (y := (lN xb)) (congrArg lN hxb.symm) ?_
  refine am_lstore_n (q := 48) (L' := [some (.long (lN xb)), none]) C dJ13_bitCount_95d88_47 rfl (by decide) rfl rfl ?_
  refine am_lload_n (q := 49) C dJ13_bitCount_95d88_48 rfl rfl ?_
  refine am_lload_n (q := 50) C dJ13_bitCount_95d88_49 rfl rfl ?_
  refine am_bipush (q := 52) (v := iZ 32) C dJ13_bitCount_95d88_50 rfl rfl ?_
  refine am_lushr (q := 53) C dJ13_bitCount_95d88_52 rfl ?_
  refine am_longE (y := (lN (xb / 4294967296))) (jushrL_lN (s := xb) (k := 32) (by omega) (by decide)) ?_
  refine am_ladd (q := 54) C dJ13_bitCount_95d88_53 rfl ?_
  refine am_longE (lN_add _ _) ?_
  refine am_longE (y := (lN xc)) (congrArg lN hxc.symm) ?_
  refine am_lstore_n (q := 55) (L' := [some (.long (lN xc)), none]) C dJ13_bitCount_95d88_54 rfl (by decide) rfl rfl ?_
  refine am_lload_n (q := 56) C dJ13_bitCount_95d88_55 rfl rfl ?_
  refine am_l2i (q := 57) C dJ13_bitCount_95d88_56 rfl ?_
  refine am_intE (y := (nI xc)) (lN_i xc) ?_
  refine am_bipush (q := 59) (v := iZ 127) C dJ13_bitCount_95d88_57 rfl rfl ?_
  refine am_iand (q := 60) C dJ13_bitCount_95d88_59 rfl ?_
  refine am_intE (y := (iZ (ons 64 s : Int))) (bc_end (swar s rfl hxa hxb hxc)) ?_
  refine am_iret C T dJ13_bitCount_95d88_60 rfl (Nat.le_refl _) (Nat.le_refl _) ⟨_, rfl, ?_⟩
  exact ⟨rfl, rfl⟩
