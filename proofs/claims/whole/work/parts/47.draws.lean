variable {G : am_G} {I : Nat → Nat → Int32} {J : Nat → Nat → Int64}
/-- byte i of a number, from the lowest -/
def byN (v : Int64) (i : Nat) : Nat := v.toBitVec.toNat / 2 ^ (8 * i) % 256
theorem byN_lt (v : Int64) (i : Nat) : byN v i < 256 := Nat.mod_lt _ (by decide)
theorem b_sg : ∀ z, z < 256 → (Int8.ofNat z).toInt32 = iZ (sg z) := by decide +kernel
theorem i8_mod (m : Nat) : Int8.ofNat m = Int8.ofNat (m % 256) := by
  apply Int8.toBitVec_inj.mp
  apply BitVec.eq_of_toNat_eq
  show (BitVec.ofNat 8 m).toNat = (BitVec.ofNat 8 (m % 256)).toNat
  rw [BitVec.toNat_ofNat, BitVec.toNat_ofNat]
  show m % 256 = m % 256 % 256
  omega
theorem by_at (v : Int64) {i : Nat} (hi : i < 8) : (jushrL v (iZ (8 * (i : Int)))).toInt32.toInt8.toInt32 = iZ (sg (byN v i)) := by
  obtain ⟨n, hn, rfl⟩ := wb_of v
  have e : (8 * (i : Int)).toNat = 8 * i := by omega
  have e2 : byN (lN n) i = n / 2 ^ (8 * i) % 256 := by unfold byN; rw [wb_tn hn]
  rw [jushrL_lN hn (by omega), e, e2]
  generalize n / 2 ^ (8 * i) = m
  show (Int64.ofNat m).toInt32.toInt8.toInt32 = _
  rw [Int64.toInt32_ofNat', Int32.toInt8_ofNat', i8_mod]
  exact b_sg _ (Nat.mod_lt _ (by decide))
/-- a number's bytes come to a tape -/
def fed (v : Int64) : Nat → Nat × (Nat → Nat) → Nat × (Nat → Nat)
  | 0, T => T
  | i + 1, T => ((fed v i T).1 + 1, up1 (fed v i T).2 (fed v i T).1 (byN v i))
theorem fed_1 (v : Int64) (T : Nat × (Nat → Nat)) : ∀ i, (fed v i T).1 = T.1 + i
  | 0 => rfl
  | i + 1 => by
    show (fed v i T).1 + 1 = T.1 + (i + 1)
    rw [fed_1 v T i]; omega
/-- another tape -/
def tpS (σ : SG) (T : Nat × (Nat → Nat)) : SG := (σ.1, σ.2.1, σ.2.2.1, σ.2.2.2.1, T, σ.2.2.2.2.2)
theorem atC_tp {σ : SG} {I' : Nat → Nat → Int32} (h : atC I J σ) {T : Nat × (Nat → Nat)} (hT : atT I' T.1 T.2) (hI : ∀ x, x ≠ 163 → x ≠ 164 → I' x = I x) : atC I' J (tpS σ T) := by
  refine atC_0 (g := (tpS σ T).2.2) h (fun x h1 h2 h3 h4 h5 => ⟨hI x (by omega) (by omega), rfl⟩) ?_
  obtain ⟨h1, h2, h3, h4, h5, ⟨r, h6⟩, h7⟩ := h.2.2.2.2
  exact ⟨by rw [hI 0 (by omega) (by omega)]; exact h1, by rw [hI 0 (by omega) (by omega)]; exact h2, by rw [hI 0 (by omega) (by omega)]; exact h3, fun e => ⟨(h4 e).1.on (fun a h8 h9 => hI a (by omega) (by omega)) rfl, (h4 e).2⟩, hT, ⟨r, h6.on (hI 165 (by omega) (by omega)) (hI 168 (by omega) (by omega)) rfl rfl⟩, fun j hj => (h7 j hj).on (hI _ (by omega) (by omega)) rfl⟩
abbrev tpN (σ : SG) : Nat := σ.2.2.2.2.1.1
def feedA (σ : SG) (k : Int) : Int := if 1 ≤ k ∧ k ≤ 8 then (if 100 - (tpN σ : Int) < k then -2 else (tpN σ : Int) + k) else -1
def feedT (σ : SG) (v : Int64) (k : Int) : SG := if 1 ≤ k ∧ k ≤ 8 then (if 100 - (tpN σ : Int) < k then σ else tpS σ (fed v k.toNat σ.2.2.2.2.1)) else σ
set_option maxRecDepth 4000 in
theorem sp_X10_feed {σ : SG} (hC : atC I J σ) {v : Int64} {k : Int} (hk : rg k) : am_S G mX10_feed 2 0 0 [.ref 0, .long v, .int (iZ k)] (215, kK, kR, I, J) (am_qi (fun v0 w' => v0 = iZ (feedA σ k) ∧ ∃ (I' : Nat → Nat → Int32) (J' : Nat → Nat → Int64), w' = (215, kK, kR, I', J') ∧ atC I' J' (feedT σ v k) ∧ frC I J I' J')) := by
  have hT0 : atT I (tpN σ) σ.2.2.2.2.1.2 := hC.2.2.2.2.2.2.2.2.1
  have ht := hT0.2.1
  refine am_spec (plainFor_of_name (by decide +kernel)) (Nat.le_of_ble_eq_true rfl) (L := [some (.ref 0), some (.long v), none, some (.int (iZ k)), none]) rfl (fun X C T => ?_)
  have lp : ∀ (fuel : Nat) (i : Nat) (I1 : Nat → Nat → Int32), ((i : Int) ≤ k) → (1 ≤ k ∧ k ≤ 8 ∧ ¬ (100 - (tpN σ : Int) < k)) → (atT I1 (fed v i σ.2.2.2.2.1).1 (fed v i σ.2.2.2.2.1).2) → (∀ x, x ≠ 163 → x ≠ 164 → I1 x = I x) → ((k - (i : Int)).toNat) < fuel → am_A G mX10_feed X (am_rm 2 0 0) 33 [some (.ref 0), some (.long v), none, some (.int (iZ k)), some (.int (iZ (i : Int)))] [] (215, kK, kR, I1, J) 0 0 := by
    intro fuel
    induction fuel with
    | zero => intro i I1 hi hk8 hT1 hI1 hf; exact absurd hf (Nat.not_lt_zero _)
    | succ fuel ih =>
      intro i I1 hi hk8 hT1 hI1 hf
      refine am_iload (q := 35) C dX10_feed_33 rfl rfl ?_
      refine am_iload_n (q := 36) C dX10_feed_35 rfl rfl ?_
      refine am_icmpZ_ge (q := 39) (tgt := 61) C dX10_feed_36 (by decide) rfl ⟨by omega, by omega⟩ hk (fun c1 => ?_) (fun c1 => ?_)
      · refine am_aload_n (q := 62) C dX10_feed_61 rfl rfl ?_
        refine am_getR (q := 65) C fb_X10_31 dX10_feed_62 rfl rfl kk_0 (show 0 < 215 by decide) kr_0_3 ?_
        refine am_getIe (q := 68) (v := (iZ ((tpN σ + i : Nat) : Int))) C fb_X10_138 dX10_feed_65 rfl rfl kk_163 (show 163 < 215 by decide) (by rw [hT1.1, fed_1]) ?_
        refine am_iret C T dX10_feed_68 rfl (Nat.le_refl _) (Nat.le_refl _) ⟨_, rfl, ?_⟩
        have e1 : feedA σ k = ((tpN σ + i : Nat) : Int) := by
          unfold feedA
          rw [if_pos (by omega), if_neg (by omega)]
          omega
        have e2 : feedT σ v k = tpS σ (fed v i σ.2.2.2.2.1) := by
          unfold feedT
          rw [if_pos (by omega), if_neg (by omega), show k.toNat = i by omega]
        rw [e1, e2]
        exact ⟨rfl, _, _, rfl, atC_tp hC hT1 hI1, fun x hx => ⟨hI1 x (by omega) (by omega), rfl⟩⟩
      · refine am_aload_n (q := 40) C dX10_feed_39 rfl rfl ?_
        refine am_getR (q := 43) C fb_X10_31 dX10_feed_40 rfl rfl kk_0 (show 0 < 215 by decide) kr_0_3 ?_
        refine am_lload_n (q := 44) C dX10_feed_43 rfl rfl ?_
        refine am_bipush (q := 46) (v := iZ 8) C dX10_feed_44 rfl rfl ?_
        refine am_iload (q := 48) C dX10_feed_46 rfl rfl ?_
        refine am_imulZ (q := 49) C dX10_feed_48 rfl ?_
        refine am_lushr (q := 50) C dX10_feed_49 rfl ?_
        refine am_l2i (q := 51) C dX10_feed_50 rfl ?_
        refine am_i2b (q := 52) C dX10_feed_51 rfl ?_
        refine am_intE (y := (iZ (sg (byN v i)))) (by_at v (by omega)) ?_
        refine am_callN (q := 55) (As := [.int (iZ (sg (byN v i)))]) (rest := []) C mb_X8_take im_X8_take se_X8_take mn_X10_139 cb_8 kk_163 (show 163 < 215 by decide) dX10_feed_52 rfl (sp_X8_take hT1 (by have h9 : (fed v i σ.2.2.2.2.1).1 = tpN σ + i := fed_1 v σ.2.2.2.2.1 i; omega) (byN_lt v i)) rfl rfl ⟨by decide, by decide⟩ ⟨Nat.le_refl _, Nat.le_refl _⟩ (Nat.le_of_ble_eq_true rfl) (am_rv (fun w' hw' => ?_))
        obtain ⟨I2, rfl, hT2, hI2, hK2⟩ := hw'
        refine am_iincZ (q := 58) (L' := [some (.ref 0), some (.long v), none, some (.int (iZ k)), some (.int (iZ ((i + 1 : Nat) : Int)))]) C dX10_feed_55 rfl rfl (by omega) (by decide) rfl rfl ?_
        refine am_goto (q := 33) C dX10_feed_58 (by decide) ?_
        refine ih (i + 1) I2 (by omega) (by omega) hT2 (fun x h1 h2 => (hI2 x h1 h2).trans (hI1 x h1 h2)) (by omega)
  refine am_iload_n (q := 1) C dX10_feed_0 rfl rfl ?_
  refine am_iconst (q := 2) (v := iZ 1) C dX10_feed_1 rfl rfl ?_
  refine am_icmpZ_lt (q := 5) (tgt := 11) C dX10_feed_2 (by decide) rfl hk ⟨by omega, by omega⟩ (fun c2 => ?_) (fun c2 => ?_)
  · refine am_iconst (q := 12) (v := iZ (-1)) C dX10_feed_11 rfl rfl ?_
    refine am_iret C T dX10_feed_12 rfl (Nat.le_refl _) (Nat.le_refl _) ⟨_, rfl, ?_⟩
    have e1 : feedA σ k = (-1) := by
      unfold feedA
      try simp only [Int.toNat_natCast]
      first | (rw [if_neg (by omega)]; done) | (rw [if_pos (by omega), if_pos (by omega)]; done) | (rw [if_pos (by omega), if_neg (by omega)]; done)
    have e2 : feedT σ v k = σ := by
      unfold feedT
      try simp only [Int.toNat_natCast]
      first | (rw [if_neg (by omega)]; done) | (rw [if_pos (by omega), if_pos (by omega)]; done) | (rw [if_pos (by omega), if_neg (by omega)]; done)
    rw [e1, e2]
    exact ⟨rfl, _, _, rfl, hC, frC_refl⟩
  · refine am_iload_n (q := 6) C dX10_feed_5 rfl rfl ?_
    refine am_bipush (q := 8) (v := iZ 8) C dX10_feed_6 rfl rfl ?_
    refine am_icmpZ_le (q := 11) (tgt := 13) C dX10_feed_8 (by decide) rfl hk ⟨by omega, by omega⟩ (fun c3 => ?_) (fun c3 => ?_)
    · refine am_iload_n (q := 14) C dX10_feed_13 rfl rfl ?_
      refine am_bipush (q := 16) (v := iZ 100) C dX10_feed_14 rfl rfl ?_
      refine am_aload_n (q := 17) C dX10_feed_16 rfl rfl ?_
      refine am_getR (q := 20) C fb_X10_31 dX10_feed_17 rfl rfl kk_0 (show 0 < 215 by decide) kr_0_3 ?_
      refine am_getIe (q := 23) (v := (iZ (tpN σ : Int))) C fb_X10_138 dX10_feed_20 rfl rfl kk_163 (show 163 < 215 by decide) hT0.1 ?_
      refine am_isubZ (q := 24) C dX10_feed_23 rfl ?_
      refine am_icmpZ_le (q := 27) (tgt := 30) C dX10_feed_24 (by decide) rfl hk ⟨by omega, by omega⟩ (fun c4 => ?_) (fun c4 => ?_)
      · refine am_iconst (q := 31) (v := iZ 0) C dX10_feed_30 rfl rfl ?_
        refine am_istore (q := 33) (L' := [some (.ref 0), some (.long v), none, some (.int (iZ k)), some (.int (iZ 0))]) C dX10_feed_31 rfl (by decide) rfl rfl ?_
        exact lp 9 0 I (by omega) (by omega) hT0 (fun x _ _ => rfl) (by omega)
      · refine am_bipush (q := 29) (v := iZ (-2)) C dX10_feed_27 rfl rfl ?_
        refine am_iret C T dX10_feed_29 rfl (Nat.le_refl _) (Nat.le_refl _) ⟨_, rfl, ?_⟩
        have e1 : feedA σ k = (-2) := by
          unfold feedA
          try simp only [Int.toNat_natCast]
          first | (rw [if_neg (by omega)]; done) | (rw [if_pos (by omega), if_pos (by omega)]; done) | (rw [if_pos (by omega), if_neg (by omega)]; done)
        have e2 : feedT σ v k = σ := by
          unfold feedT
          try simp only [Int.toNat_natCast]
          first | (rw [if_neg (by omega)]; done) | (rw [if_pos (by omega), if_pos (by omega)]; done) | (rw [if_pos (by omega), if_neg (by omega)]; done)
        rw [e1, e2]
        exact ⟨rfl, _, _, rfl, hC, frC_refl⟩
    · refine am_iconst (q := 12) (v := iZ (-1)) C dX10_feed_11 rfl rfl ?_
      refine am_iret C T dX10_feed_12 rfl (Nat.le_refl _) (Nat.le_refl _) ⟨_, rfl, ?_⟩
      have e1 : feedA σ k = (-1) := by
        unfold feedA
        try simp only [Int.toNat_natCast]
        first | (rw [if_neg (by omega)]; done) | (rw [if_pos (by omega), if_pos (by omega)]; done) | (rw [if_pos (by omega), if_neg (by omega)]; done)
      have e2 : feedT σ v k = σ := by
        unfold feedT
        try simp only [Int.toNat_natCast]
        first | (rw [if_neg (by omega)]; done) | (rw [if_pos (by omega), if_pos (by omega)]; done) | (rw [if_pos (by omega), if_neg (by omega)]; done)
      rw [e1, e2]
      exact ⟨rfl, _, _, rfl, hC, frC_refl⟩
def drZK (K z : Int32) : Int32 := z * K + (iZ 12345)
def drZ (z : Int32) : Int32 := drZK 1103515245 z
theorem drZ_K {K : Int32} (h : (1103515245 : Int32) = K) (z : Int32) : z * K + (iZ 12345) = drZ z := by
  show drZK K z = drZ z
  rw [← h]
  rfl
/-- what is drawn from z -/
def drN (z : Int32) : Nat := (drZ z).toBitVec.toNat / 65536
theorem drN_lt (z : Int32) : drN z < 65536 := by have := (drZ z).toBitVec.isLt; unfold drN; omega
theorem dr_16 (z : Int32) : jushr (drZ z) (iZ 16) = iZ (drN z : Int) := by
  obtain ⟨n, hn, e⟩ := wb_of32 (drZ z)
  have h2 : drN z = n / 2 ^ 16 := by
    unfold drN
    rw [e]
    show (BitVec.ofNat 32 n).toNat / 65536 = _
    rw [BitVec.toNat_ofNat, Nat.mod_eq_of_lt hn]
  rw [h2, ← iZ_nI, e]
  exact pk_ushrN hn (iZ 16) 16 (by decide)
def zS (σ : SG) (z : Int32) : SG := (σ.1, σ.2.1, (σ.2.2.1, z, σ.2.2.2.2))
theorem zS_z (σ : SG) (a : Int32) : (zS σ a).2.2.2.1 = a := rfl
theorem zS_zS (σ : SG) (a b : Int32) : zS (zS σ a) b = zS σ b := rfl
def lot1 (σ : SG) : SG := if drN σ.2.2.2.1 % 5 = 0 ∧ drN (drZ σ.2.2.2.1) % 5 = 0 then comesS (zS σ (drZ (drZ σ.2.2.2.1))) 1 1 else comesS (zS σ (drZ (drZ σ.2.2.2.1))) (drN σ.2.2.2.1 % 5) (drN (drZ σ.2.2.2.1) % 5)
def itr (f : SG → SG) : Nat → SG → SG
  | 0, σ => σ
  | k + 1, σ => itr f k (f σ)
theorem itr_0 (f : SG → SG) (σ : SG) : itr f 0 σ = σ := rfl
theorem itr_1 (f : SG → SG) (k : Nat) (σ : SG) : itr f (k + 1) σ = itr f k (f σ) := rfl
theorem pm_comes {σ : SG} (h : pm σ.1 < 6) (a b : Nat) : pm (comesS σ a b).1 = pm σ.1 + 1 := by unfold comesS; rw [if_neg (by omega)]; rfl
theorem pm_lot1 {σ : SG} (h : pm σ.1 < 6) : pm (lot1 σ).1 = pm σ.1 + 1 := by
  have h2 : ∀ y, pm (zS σ y).1 = pm σ.1 := fun _ => rfl
  unfold lot1
  split
  · rw [pm_comes (by rw [h2]; exact h), h2]
  · rw [pm_comes (by rw [h2]; exact h), h2]
def lotA (σ : SG) (n : Int) : Int := if 1 ≤ n ∧ n ≤ 6 then min n (6 - (pm σ.1 : Int)) else -1
def lotT (σ : SG) (n : Int) : SG := if 1 ≤ n ∧ n ≤ 6 then itr lot1 (min n (6 - (pm σ.1 : Int))).toNat σ else σ
set_option maxRecDepth 4000 in
theorem sp_X10_drawn {σ : SG} (hC : atC I J σ) {z : Int32} (hz : σ.2.2.2.1 = z) : am_S G mX10_drawn 1 0 0 [.ref 0] (215, kK, kR, I, J) (am_qi (fun v w' => v = iZ (drN z : Int) ∧ ∃ (I' : Nat → Nat → Int32) (J' : Nat → Nat → Int64), w' = (215, kK, kR, I', J') ∧ atC I' J' (zS σ (drZ z)) ∧ frC I J I' J')) := by
  obtain ⟨K, hK⟩ : ∃ K : Int32, (1103515245 : Int32) = K := ⟨_, rfl⟩
  refine am_spec (plainFor_of_name (by decide +kernel)) (Nat.le_of_ble_eq_true rfl) (L := [some (.ref 0)]) rfl (fun X C T => ?_)
  refine am_aload_n (q := 1) C dX10_drawn_0 rfl rfl ?_
  refine am_aload_n (q := 2) C dX10_drawn_1 rfl rfl ?_
  refine am_getIe (q := 5) (v := z) C fb_X10_91 dX10_drawn_2 rfl rfl kk_0 (show 0 < 215 by decide) (hC.2.2.2.2.2.2.1.trans hz) ?_
  refine am_ldcw (q := 8) C dX10_drawn_5 rfl ck_X10_336 ?_
  refine am_intE hK ?_
  refine am_imul (q := 9) C dX10_drawn_8 rfl ?_
  refine am_sipush (q := 12) (v := iZ 12345) C dX10_drawn_9 rfl rfl ?_
  refine am_iadd (q := 13) C dX10_drawn_12 rfl ?_
  refine am_putI (q := 16) C fw_X10_91 dX10_drawn_13 rfl rfl kk_0 (show 0 < 215 by decide) ?_
  refine am_aload_n (q := 17) C dX10_drawn_16 rfl rfl ?_
  refine am_getIe (q := 20) (v := (drZ z)) C fb_X10_91 dX10_drawn_17 rfl rfl kk_0 (show 0 < 215 by decide) ((am_up_eq _ _ _ _).trans (drZ_K hK z)) ?_
  refine am_bipush (q := 22) (v := iZ 16) C dX10_drawn_20 rfl rfl ?_
  refine am_iushr (q := 23) C dX10_drawn_22 rfl ?_
  refine am_intE (y := (iZ (drN z : Int))) (dr_16 _) ?_
  refine am_iret C T dX10_drawn_23 rfl (Nat.le_refl _) (Nat.le_refl _) ⟨_, rfl, ?_⟩
  rw [drZ_K hK z]
  exact ⟨rfl, _, _, rfl, atC_0 hC (fun x h1 h2 _ _ _ => ⟨am_up_row _ _ _ _ (by omega), rfl⟩) (atX_z hC.2.2.2.2 _), fun x hx => ⟨am_up_row _ _ _ _ (by omega), rfl⟩⟩
theorem frC_tr {I1 I2 : Nat → Nat → Int32} {J1 J2 : Nat → Nat → Int64} (h : frC I J I1 J1) (g : frC I1 J1 I2 J2) : frC I J I2 J2 := fun x hx => ⟨(g x hx).1.trans (h x hx).1, (g x hx).2.trans (h x hx).2⟩
set_option maxRecDepth 4000 in
theorem sp_X10_lot {σ : SG} (hC : atC I J σ) {n : Int} (hn : rg n) : am_S G mX10_lot 7 0 0 [.ref 0, .int (iZ n)] (215, kK, kR, I, J) (am_qi (fun v w' => v = iZ (lotA σ n) ∧ ∃ (I' : Nat → Nat → Int32) (J' : Nat → Nat → Int64), w' = (215, kK, kR, I', J') ∧ atC I' J' (lotT σ n) ∧ frC I J I' J')) := by
  have hm := hC.2.1.1
  refine am_spec (plainFor_of_name (by decide +kernel)) (Nat.le_of_ble_eq_true rfl) (L := [some (.ref 0), some (.int (iZ n)), none, none, none, none]) rfl (fun X C T => ?_)
  refine am_iload_n (q := 1) C dX10_lot_0 rfl rfl ?_
  refine am_iconst (q := 2) (v := iZ 1) C dX10_lot_1 rfl rfl ?_
  refine am_icmpZ_lt (q := 5) (tgt := 11) C dX10_lot_2 (by decide) rfl hn ⟨by omega, by omega⟩ (fun c1 => ?_) (fun c1 => ?_)
  · refine am_iconst (q := 12) (v := iZ (-1)) C dX10_lot_11 rfl rfl ?_
    refine am_iret C T dX10_lot_12 rfl (Nat.le_refl _) (Nat.le_refl _) ⟨_, rfl, ?_⟩
    have e1 : lotA σ n = (-1) := by
      unfold lotA
      try simp only [Int.toNat_natCast]
      first | (rw [if_neg (by omega)]; done)
    have e2 : lotT σ n = σ := by
      unfold lotT
      try simp only [Int.toNat_natCast]
      first | (rw [if_neg (by omega)]; done)
    rw [e1, e2]
    exact ⟨rfl, _, _, rfl, hC, frC_refl⟩
  · refine am_iload_n (q := 6) C dX10_lot_5 rfl rfl ?_
    refine am_bipush (q := 8) (v := iZ 6) C dX10_lot_6 rfl rfl ?_
    refine am_icmpZ_le (q := 11) (tgt := 13) C dX10_lot_8 (by decide) rfl hn ⟨by omega, by omega⟩ (fun c2 => ?_) (fun c2 => ?_)
    · refine am_iload_n (q := 14) C dX10_lot_13 rfl rfl ?_
      refine am_bipush (q := 16) (v := iZ 6) C dX10_lot_14 rfl rfl ?_
      refine am_aload_n (q := 17) C dX10_lot_16 rfl rfl ?_
      refine am_getR (q := 20) C fb_X10_14 dX10_lot_17 rfl rfl kk_0 (show 0 < 215 by decide) kr_0_0 ?_
      refine am_getIe (q := 23) (v := (iZ (pm σ.1 : Int))) C fb_X10_103 dX10_lot_20 rfl rfl kk_1 (show 1 < 215 by decide) hC.1.1 ?_
      refine am_isubZ (q := 24) C dX10_lot_23 rfl ?_
      obtain ⟨c, hc⟩ : ∃ c : Nat, (c : Int) = min n (6 - (pm σ.1 : Int)) := ⟨(min n (6 - (pm σ.1 : Int))).toNat, by omega⟩
      refine am_callS (q := 27) (As := [.int (iZ n), .int (iZ (6 - (pm σ.1 : Int)))]) (rest := []) C mb_J9_min_7cf53 st_J9_min_7cf53 ml_X10_298 dX10_lot_24 rfl (sp_min hn (b := 6 - (pm σ.1 : Int)) ⟨by omega, by omega⟩) rfl rfl ⟨by decide, by decide⟩ ⟨Nat.le_refl _, Nat.le_refl _⟩ (Nat.le_of_ble_eq_true rfl) (am_rie ?_)
      refine am_intE (show _ = iZ (c : Int) from congrArg iZ (by omega)) ?_
      refine am_istore_n (q := 28) (L' := [some (.ref 0), some (.int (iZ n)), some (.int (iZ (c : Int))), none, none, none]) C dX10_lot_27 rfl (by decide) rfl rfl ?_
      refine am_iconst (q := 29) (v := iZ 0) C dX10_lot_28 rfl rfl ?_
      refine am_istore_n (q := 30) (L' := [some (.ref 0), some (.int (iZ n)), some (.int (iZ (c : Int))), some (.int (iZ 0)), none, none]) C dX10_lot_29 rfl (by decide) rfl rfl ?_
      have lp : ∀ (fuel : Nat) (k : Nat) (τ : SG) (I1 : Nat → Nat → Int32) (J1 : Nat → Nat → Int64), (k ≤ c) → (atC I1 J1 τ) → (frC I J I1 J1) → (pm τ.1 = pm σ.1 + k) → (itr lot1 (c - k) τ = itr lot1 c σ) → (c - k) < fuel → am_A G mX10_lot X (am_rm 7 0 0) 30 [some (.ref 0), some (.int (iZ n)), some (.int (iZ (c : Int))), some (.int (iZ (k : Int))), none, none] [] (215, kK, kR, I1, J1) 0 0 := by
        intro fuel
        induction fuel with
        | zero => intro k τ I1 J1 hk hC1 hf1 hm1 hL0 hf; exact absurd hf (Nat.not_lt_zero _)
        | succ fuel ih =>
          intro k τ I1 J1 hk hC1 hf1 hm1 hL0 hf
          obtain ⟨z, hz⟩ : ∃ z, τ.2.2.2.1 = z := ⟨_, rfl⟩
          have hd1 := drN_lt z
          have hd2 := drN_lt (drZ z)
          refine am_iload_n (q := 31) C dX10_lot_30 rfl rfl ?_
          refine am_iload_n (q := 32) C dX10_lot_31 rfl rfl ?_
          refine am_icmpZ_ge (q := 35) (tgt := 86) C dX10_lot_32 (by decide) rfl ⟨by omega, by omega⟩ ⟨by omega, by omega⟩ (fun q1 => ?_) (fun q1 => ?_)
          · refine am_iload_n (q := 87) C dX10_lot_86 rfl rfl ?_
            refine am_iret C T dX10_lot_87 rfl (Nat.le_refl _) (Nat.le_refl _) ⟨_, rfl, ?_⟩
            have e1 : lotA σ n = (c : Int) := by
              unfold lotA
              rw [if_pos (by omega)]; omega
            have e2 : lotT σ n = τ := by
              unfold lotT
              rw [if_pos (by omega), show (min n (6 - (pm σ.1 : Int))).toNat = c by omega, ← hL0, show c - k = 0 by omega, itr_0]
            rw [e1, e2]
            exact ⟨rfl, _, _, rfl, hC1, hf1⟩
          · refine am_aload_n (q := 36) C dX10_lot_35 rfl rfl ?_
            refine am_callV (q := 39) (As := []) (rest := []) C mb_X10_drawn im_X10_drawn se_X10_drawn ml_X10_303 cb_10 kk_0 (show 0 < 215 by decide) dX10_lot_36 rfl (sp_X10_drawn hC1 hz) rfl rfl ⟨by decide, by decide⟩ ⟨Nat.le_refl _, Nat.le_refl _⟩ (Nat.le_of_ble_eq_true rfl) (am_ri (fun v' w' hw' => ?_))
            obtain ⟨rfl, I2, J2, rfl, hC2, hf2⟩ := hw'
            refine am_iconst (q := 40) (v := iZ 5) C dX10_lot_39 rfl rfl ?_
            refine am_iremZ (q := 41) C dX10_lot_40 rfl ⟨by omega, by omega⟩ ⟨by omega, by omega⟩ (by omega) (by omega) ?_
            refine am_intE (y := (iZ ((drN z % 5 : Nat) : Int))) (congrArg iZ rfl) ?_
            refine am_istore (q := 43) (L' := [some (.ref 0), some (.int (iZ n)), some (.int (iZ (c : Int))), some (.int (iZ (k : Int))), some (.int (iZ ((drN z % 5 : Nat) : Int))), none]) C dX10_lot_41 rfl (by decide) rfl rfl ?_
            refine am_aload_n (q := 44) C dX10_lot_43 rfl rfl ?_
            refine am_callV (q := 47) (As := []) (rest := []) C mb_X10_drawn im_X10_drawn se_X10_drawn ml_X10_303 cb_10 kk_0 (show 0 < 215 by decide) dX10_lot_44 rfl (sp_X10_drawn hC2 (z := drZ z) (zS_z _ _)) rfl rfl ⟨by decide, by decide⟩ ⟨Nat.le_refl _, Nat.le_refl _⟩ (Nat.le_of_ble_eq_true rfl) (am_ri (fun v' w' hw' => ?_))
            obtain ⟨rfl, I3, J3, rfl, hC3, hf3⟩ := hw'
            rw [zS_zS] at hC3
            refine am_iconst (q := 48) (v := iZ 5) C dX10_lot_47 rfl rfl ?_
            refine am_iremZ (q := 49) C dX10_lot_48 rfl ⟨by omega, by omega⟩ ⟨by omega, by omega⟩ (by omega) (by omega) ?_
            refine am_intE (y := (iZ ((drN (drZ z) % 5 : Nat) : Int))) (congrArg iZ rfl) ?_
            refine am_istore (q := 51) (L' := [some (.ref 0), some (.int (iZ n)), some (.int (iZ (c : Int))), some (.int (iZ (k : Int))), some (.int (iZ ((drN z % 5 : Nat) : Int))), some (.int (iZ ((drN (drZ z) % 5 : Nat) : Int)))]) C dX10_lot_49 rfl (by decide) rfl rfl ?_
            refine am_iload (q := 53) C dX10_lot_51 rfl rfl ?_
            refine am_ifZ_ne (q := 56) (tgt := 71) C dX10_lot_53 (by decide) rfl ⟨by omega, by omega⟩ (fun q2 => ?_) (fun q2 => ?_)
            · refine am_aload_n (q := 72) C dX10_lot_71 rfl rfl ?_
              refine am_iload (q := 74) C dX10_lot_72 rfl rfl ?_
              refine am_iload (q := 76) C dX10_lot_74 rfl rfl ?_
              refine am_callV (q := 79) (As := [.int (iZ ((drN z % 5 : Nat) : Int)), .int (iZ ((drN (drZ z) % 5 : Nat) : Int))]) (rest := []) C mb_X10_comes im_X10_comes se_X10_comes ml_X10_99 cb_10 kk_0 (show 0 < 215 by decide) dX10_lot_76 rfl (sp_comes hC3 (a := drN z % 5) (b := drN (drZ z) % 5) (by omega) (by omega) (by omega)) rfl rfl ⟨by decide, by decide⟩ ⟨Nat.le_refl _, Nat.le_refl _⟩ (Nat.le_of_ble_eq_true rfl) (am_ri (fun v' w' hw' => ?_))
              obtain ⟨rfl, I4, J4, rfl, hC4, hf4⟩ := hw'
              have hL : lot1 τ = comesS (zS τ (drZ (drZ z))) (drN z % 5) (drN (drZ z) % 5) := by unfold lot1; rw [hz]; exact if_neg (by omega)
              rw [← hL] at hC4
              refine am_pop (q := 80) C dX10_lot_79 rfl rfl ?_
              refine am_iincZ (q := 83) (L' := [some (.ref 0), some (.int (iZ n)), some (.int (iZ (c : Int))), some (.int (iZ ((k + 1 : Nat) : Int))), some (.int (iZ ((drN z % 5 : Nat) : Int))), some (.int (iZ ((drN (drZ z) % 5 : Nat) : Int)))]) C dX10_lot_80 rfl rfl (by omega) (by decide) rfl rfl ?_
              refine am_goto (q := 30) C dX10_lot_83 (by decide) ?_
              refine am_wkA (L1 := [some (.ref 0), some (.int (iZ n)), some (.int (iZ (c : Int))), some (.int (iZ ((k + 1 : Nat) : Int))), none, none]) ⟨rfl, ⟨rfl, ⟨rfl, ⟨rfl, trivial⟩⟩⟩⟩ ?_
              exact ih (k + 1) (lot1 τ) I4 J4 (by omega) hC4 (frC_tr hf1 (frC_tr hf2 (frC_tr hf3 hf4))) ((pm_lot1 (by omega)).trans (by omega)) (by rw [← hL0, show c - k = (c - (k + 1)) + 1 by omega, itr_1]) (by omega)
            · refine am_iload (q := 58) C dX10_lot_56 rfl rfl ?_
              refine am_ifZ_ne (q := 61) (tgt := 71) C dX10_lot_58 (by decide) rfl ⟨by omega, by omega⟩ (fun q3 => ?_) (fun q3 => ?_)
              · refine am_aload_n (q := 72) C dX10_lot_71 rfl rfl ?_
                refine am_iload (q := 74) C dX10_lot_72 rfl rfl ?_
                refine am_iload (q := 76) C dX10_lot_74 rfl rfl ?_
                refine am_callV (q := 79) (As := [.int (iZ ((drN z % 5 : Nat) : Int)), .int (iZ ((drN (drZ z) % 5 : Nat) : Int))]) (rest := []) C mb_X10_comes im_X10_comes se_X10_comes ml_X10_99 cb_10 kk_0 (show 0 < 215 by decide) dX10_lot_76 rfl (sp_comes hC3 (a := drN z % 5) (b := drN (drZ z) % 5) (by omega) (by omega) (by omega)) rfl rfl ⟨by decide, by decide⟩ ⟨Nat.le_refl _, Nat.le_refl _⟩ (Nat.le_of_ble_eq_true rfl) (am_ri (fun v' w' hw' => ?_))
                obtain ⟨rfl, I4, J4, rfl, hC4, hf4⟩ := hw'
                have hL : lot1 τ = comesS (zS τ (drZ (drZ z))) (drN z % 5) (drN (drZ z) % 5) := by unfold lot1; rw [hz]; exact if_neg (by omega)
                rw [← hL] at hC4
                refine am_pop (q := 80) C dX10_lot_79 rfl rfl ?_
                refine am_iincZ (q := 83) (L' := [some (.ref 0), some (.int (iZ n)), some (.int (iZ (c : Int))), some (.int (iZ ((k + 1 : Nat) : Int))), some (.int (iZ ((drN z % 5 : Nat) : Int))), some (.int (iZ ((drN (drZ z) % 5 : Nat) : Int)))]) C dX10_lot_80 rfl rfl (by omega) (by decide) rfl rfl ?_
                refine am_goto (q := 30) C dX10_lot_83 (by decide) ?_
                refine am_wkA (L1 := [some (.ref 0), some (.int (iZ n)), some (.int (iZ (c : Int))), some (.int (iZ ((k + 1 : Nat) : Int))), none, none]) ⟨rfl, ⟨rfl, ⟨rfl, ⟨rfl, trivial⟩⟩⟩⟩ ?_
                exact ih (k + 1) (lot1 τ) I4 J4 (by omega) hC4 (frC_tr hf1 (frC_tr hf2 (frC_tr hf3 hf4))) ((pm_lot1 (by omega)).trans (by omega)) (by rw [← hL0, show c - k = (c - (k + 1)) + 1 by omega, itr_1]) (by omega)
              · refine am_aload_n (q := 62) C dX10_lot_61 rfl rfl ?_
                refine am_iconst (q := 63) (v := iZ 1) C dX10_lot_62 rfl rfl ?_
                refine am_iconst (q := 64) (v := iZ 1) C dX10_lot_63 rfl rfl ?_
                refine am_callV (q := 67) (As := [.int (iZ (1 : Int)), .int (iZ (1 : Int))]) (rest := []) C mb_X10_comes im_X10_comes se_X10_comes ml_X10_99 cb_10 kk_0 (show 0 < 215 by decide) dX10_lot_64 rfl (sp_comes hC3 (a := 1) (b := 1) (by omega) (by omega) (by omega)) rfl rfl ⟨by decide, by decide⟩ ⟨Nat.le_refl _, Nat.le_refl _⟩ (Nat.le_of_ble_eq_true rfl) (am_ri (fun v' w' hw' => ?_))
                obtain ⟨rfl, I4, J4, rfl, hC4, hf4⟩ := hw'
                have hL : lot1 τ = comesS (zS τ (drZ (drZ z))) (1) (1) := by unfold lot1; rw [hz]; exact if_pos ⟨by omega, by omega⟩
                rw [← hL] at hC4
                refine am_pop (q := 68) C dX10_lot_67 rfl rfl ?_
                refine am_goto (q := 80) C dX10_lot_68 (by decide) ?_
                refine am_iincZ (q := 83) (L' := [some (.ref 0), some (.int (iZ n)), some (.int (iZ (c : Int))), some (.int (iZ ((k + 1 : Nat) : Int))), some (.int (iZ ((drN z % 5 : Nat) : Int))), some (.int (iZ ((drN (drZ z) % 5 : Nat) : Int)))]) C dX10_lot_80 rfl rfl (by omega) (by decide) rfl rfl ?_
                refine am_goto (q := 30) C dX10_lot_83 (by decide) ?_
                refine am_wkA (L1 := [some (.ref 0), some (.int (iZ n)), some (.int (iZ (c : Int))), some (.int (iZ ((k + 1 : Nat) : Int))), none, none]) ⟨rfl, ⟨rfl, ⟨rfl, ⟨rfl, trivial⟩⟩⟩⟩ ?_
                exact ih (k + 1) (lot1 τ) I4 J4 (by omega) hC4 (frC_tr hf1 (frC_tr hf2 (frC_tr hf3 hf4))) ((pm_lot1 (by omega)).trans (by omega)) (by rw [← hL0, show c - k = (c - (k + 1)) + 1 by omega, itr_1]) (by omega)
      exact lp (c + 1) 0 σ I J (by omega) hC frC_refl (by omega) rfl (by omega)
    · refine am_iconst (q := 12) (v := iZ (-1)) C dX10_lot_11 rfl rfl ?_
      refine am_iret C T dX10_lot_12 rfl (Nat.le_refl _) (Nat.le_refl _) ⟨_, rfl, ?_⟩
      have e1 : lotA σ n = (-1) := by
        unfold lotA
        try simp only [Int.toNat_natCast]
        first | (rw [if_neg (by omega)]; done)
      have e2 : lotT σ n = σ := by
        unfold lotT
        try simp only [Int.toNat_natCast]
        first | (rw [if_neg (by omega)]; done)
      rw [e1, e2]
      exact ⟨rfl, _, _, rfl, hC, frC_refl⟩
