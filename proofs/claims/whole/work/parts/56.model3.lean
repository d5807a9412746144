variable {G : am_G} {I : Nat → Nat → Int32} {J : Nat → Nat → Int64}
theorem sh_toInt (x : Int64) {k : Nat} (hk : k < 64) : (jshrL x (iZ (k : Int))).toInt = x.toInt >>> k := by
  have e : ((iZ (k : Int)).toInt64 &&& 63) = lN k := by rw [← iZ_nI]; exact wb_c k hk
  show (x >>> ((iZ (k : Int)).toInt64 &&& 63)).toInt = _
  rw [e]
  show (x.toBitVec.sshiftRight ((lN k).toBitVec.smod 64).toNat).toInt = _
  rw [wb_tb, wb_sm k hk, BitVec.toNat_ofNat, Nat.mod_eq_of_lt (by omega), BitVec.toInt_sshiftRight]
  rfl
theorem lN_tI {m : Nat} (hm : m < 2 ^ 64) : (lN m).toInt = if m < 2 ^ 63 then (m : Int) else (m : Int) - 2 ^ 64 := by
  show (BitVec.ofNat 64 m).toInt = _
  rw [BitVec.toInt_eq_toNat_cond, BitVec.toNat_ofNat, Nat.mod_eq_of_lt hm]
  split <;> split <;> omega
theorem jshrL_lN {s : Nat} {k : Int} (hs : s < 2 ^ 63) (hk : 0 ≤ k ∧ k < 64) : jshrL (lN s) (iZ k) = lN (s / 2 ^ k.toNat) := by
  obtain ⟨j, rfl⟩ : ∃ j : Nat, k = j := ⟨k.toNat, by omega⟩
  have h2 : s / 2 ^ j ≤ s := Nat.div_le_self _ _
  apply Int64.toInt_inj.mp
  rw [sh_toInt _ (by omega), Int.toNat_natCast, Int.shiftRight_eq_div_pow, lN_tI (by omega), lN_tI (by omega), if_pos hs, if_pos (by omega)]
  rfl
theorem bit_M {s : Nat} {k : Int} (hs : s < 2 ^ 61) (hk : 0 ≤ k ∧ k < 64) : jshrL (lN s) (iZ k) &&& lN 1 = lN (bitOf s k.toNat) := by
  rw [jshrL_lN (by omega) hk]
  exact wb_a1 (Nat.lt_of_le_of_lt (Nat.div_le_self _ _) (by omega))
theorem l32 (n : Nat) : (lN n).toInt32 = iZ (n : Int) := by rw [← iZ_nI]; exact Int64.toInt32_ofNat'
theorem by_M (v : Int64) {i : Nat} (hi : i < 8) : (jshrL v (iZ (8 * (i : Int))) &&& lN 255).toInt32 = iZ (byN v i : Int) := by
  have e : (8 * (i : Int)) = ((8 * i : Nat) : Int) := by omega
  rw [e]
  have h1 := sh_toInt v (k := 8 * i) (by omega)
  obtain ⟨n, hn, rfl⟩ := wb_of v
  obtain ⟨m, hm, e2⟩ := wb_of (jshrL (lN n) (iZ ((8 * i : Nat) : Int)))
  rw [e2] at h1 ⊢
  have e3 : byN (lN n) i = n / 2 ^ (8 * i) % 256 := by unfold byN; rw [wb_tn hn]
  have e4 : lN m &&& lN 255 = lN (m % 256) := wb_mask (k := 8) hm (by decide)
  rw [e4, e3, l32]
  have key : m % 256 = n / 2 ^ (8 * i) % 256 := by
    rw [lN_tI hm, lN_tI hn, Int.shiftRight_eq_div_pow] at h1
    rcases (show i = 0 ∨ i = 1 ∨ i = 2 ∨ i = 3 ∨ i = 4 ∨ i = 5 ∨ i = 6 ∨ i = 7 by omega) with e | e | e | e | e | e | e | e
    · subst e; rw [show (2 : Nat) ^ (8 * 0) = 1 from rfl] at h1 ⊢; split at h1 <;> split at h1 <;> omega
    · subst e; rw [show (2 : Nat) ^ (8 * 1) = 256 from rfl] at h1 ⊢; split at h1 <;> split at h1 <;> omega
    · subst e; rw [show (2 : Nat) ^ (8 * 2) = 65536 from rfl] at h1 ⊢; split at h1 <;> split at h1 <;> omega
    · subst e; rw [show (2 : Nat) ^ (8 * 3) = 16777216 from rfl] at h1 ⊢; split at h1 <;> split at h1 <;> omega
    · subst e; rw [show (2 : Nat) ^ (8 * 4) = 4294967296 from rfl] at h1 ⊢; split at h1 <;> split at h1 <;> omega
    · subst e; rw [show (2 : Nat) ^ (8 * 5) = 1099511627776 from rfl] at h1 ⊢; split at h1 <;> split at h1 <;> omega
    · subst e; rw [show (2 : Nat) ^ (8 * 6) = 281474976710656 from rfl] at h1 ⊢; split at h1 <;> split at h1 <;> omega
    · subst e; rw [show (2 : Nat) ^ (8 * 7) = 72057594037927936 from rfl] at h1 ⊢; split at h1 <;> split at h1 <;> omega
  rw [key]
theorem and_2 (a b y z : Nat) (ha : a < 2) (hb : b < 2) : (a + 2 * y) &&& (b + 2 * z) = (a &&& b) + 2 * (y &&& z) := by
  apply Nat.eq_of_testBit_eq
  intro j
  have e1 : a &&& b < 2 ^ 1 := Nat.lt_of_le_of_lt Nat.and_le_left ha
  rw [Nat.testBit_and, Nat.add_comm a, Nat.add_comm b, Nat.add_comm (a &&& b), show 2 = 2 ^ 1 from rfl, Nat.testBit_two_pow_mul_add _ ha, Nat.testBit_two_pow_mul_add _ hb, Nat.testBit_two_pow_mul_add _ e1]
  by_cases h : j < 1
  · rw [if_pos h, if_pos h, if_pos h, Nat.testBit_and]
  · rw [if_neg h, if_neg h, if_neg h, Nat.testBit_and]
theorem ons_and : ∀ n x, 0 < x → x < 2 ^ n → ons n (x &&& (x - 1)) + 1 = ons n x
  | 0, x, h, h2 => by
    have h3 : x < 1 := h2
    omega
  | n + 1, x, h, h2 => by
    have h3 : x < 2 * 2 ^ n := by rw [Nat.pow_succ] at h2; omega
    rcases (show x % 2 = 1 ∨ x % 2 = 0 by omega) with e | e
    · have e1 : x &&& (x - 1) = 2 * (x / 2) := by
        have h4 := and_2 1 0 (x / 2) (x / 2) (by decide) (by decide)
        rw [Nat.and_self] at h4
        rw [show x - 1 = 0 + 2 * (x / 2) by omega]
        have h5 : (1 + 2 * (x / 2)) &&& (0 + 2 * (x / 2)) = 2 * (x / 2) := by rw [h4]; show 0 + _ = _; omega
        rw [show 1 + 2 * (x / 2) = x by omega] at h5
        exact h5
      rw [e1]
      show 2 * (x / 2) % 2 + ons n (2 * (x / 2) / 2) + 1 = x % 2 + ons n (x / 2)
      rw [show 2 * (x / 2) % 2 = 0 by omega, show 2 * (x / 2) / 2 = x / 2 by omega, e]
      omega
    · have hy : 0 < x / 2 := by omega
      have ih := ons_and n (x / 2) hy (by omega)
      have e1 : x &&& (x - 1) = 2 * ((x / 2) &&& (x / 2 - 1)) := by
        have h4 := and_2 0 1 (x / 2) (x / 2 - 1) (by decide) (by decide)
        rw [show 0 + 2 * (x / 2) = x by omega, show 1 + 2 * (x / 2 - 1) = x - 1 by omega] at h4
        rw [h4]; show 0 + _ = _; omega
      rw [e1]
      generalize (x / 2) &&& (x / 2 - 1) = z at *
      show 2 * z % 2 + ons n (2 * z / 2) + 1 = x % 2 + ons n (x / 2)
      rw [show 2 * z % 2 = 0 by omega, show 2 * z / 2 = z by omega, e]
      omega
theorem ons_0 : ∀ n, ons n 0 = 0
  | 0 => rfl
  | n + 1 => by show 0 % 2 + ons n (0 / 2) = 0; rw [Nat.zero_div, ons_0 n]
theorem lN_sub1 {s : Nat} (h : 1 ≤ s) : lN s - lN 1 = lN (s - 1) := by
  obtain ⟨k, rfl⟩ : ∃ k, s = k + 1 := ⟨s - 1, by omega⟩
  rw [← lN_add k 1, Int64.add_sub_cancel, Nat.add_sub_cancel]
set_option maxRecDepth 4000 in
theorem sp_X11_ones {s : Nat} (hs : s < 2 ^ 61) : am_S G mX11_ones 1 0 0 [.long (lN s)] (215, kK, kR, I, J) (am_fi (iZ (ons 64 s : Int)) (215, kK, kR, I, J)) := by
  refine am_spec (plainFor_of_name (by decide +kernel)) (Nat.le_of_ble_eq_true rfl) (L := [some (.long (lN s)), none, none, none, none]) rfl (fun X C T => ?_)
  have lp : ∀ (fuel : Nat) (y q : Nat), (y < 2 ^ 61) → (q + ons 64 y = ons 64 s) → (ons 64 y) < fuel → am_A G mX11_ones X (am_rm 1 0 0) 4 [some (.long (lN s)), none, some (.int (iZ (q : Int))), some (.long (lN y)), none] [] (215, kK, kR, I, J) 0 0 := by
    intro fuel
    induction fuel with
    | zero => intro y q hy hq hf; exact absurd hf (Nat.not_lt_zero _)
    | succ fuel ih =>
      intro y q hy hq hf
      refine am_lload_n (q := 5) C dX11_ones_4 rfl rfl ?_
      refine am_lconst (q := 6) (v := lN 0) C dX11_ones_5 rfl rfl ?_
      refine am_lcmp (q := 7) C dX11_ones_6 rfl ?_
      refine am_if_eq (q := 10) (tgt := 22) C dX11_ones_7 (by decide) rfl (fun c1 => ?_) (fun c1 => ?_)
      · have c1 := ((lg_cmp_eq _ _).trans (pk_lEQ (by omega) (by omega))).mp c1
        refine am_iload_n (q := 23) C dX11_ones_22 rfl rfl ?_
        refine am_iret C T dX11_ones_23 rfl (Nat.le_refl _) (Nat.le_refl _) ⟨_, rfl, ?_⟩
        have e0 : y = 0 := by omega
        rw [e0, ons_0] at hq
        exact ⟨congrArg iZ (by omega), rfl⟩
      · have c1 : ¬ (_) := fun z => c1 (((lg_cmp_eq _ _).trans (pk_lEQ (by omega) (by omega))).mpr z)
        refine am_iincZ (q := 13) (L' := [some (.long (lN s)), none, some (.int (iZ ((q + 1 : Nat) : Int))), some (.long (lN y)), none]) C dX11_ones_10 rfl rfl (by omega) (by decide) rfl rfl ?_
        refine am_lload_n (q := 14) C dX11_ones_13 rfl rfl ?_
        refine am_lload_n (q := 15) C dX11_ones_14 rfl rfl ?_
        refine am_lconst (q := 16) (v := lN 1) C dX11_ones_15 rfl rfl ?_
        refine am_lsub (q := 17) C dX11_ones_16 rfl ?_
        refine am_longE (y := (lN (y - 1))) (lN_sub1 (by omega)) ?_
        refine am_land (q := 18) C dX11_ones_17 rfl ?_
        refine am_longE (y := (lN (y &&& (y - 1)))) (wb_and (by omega) (by omega)) ?_
        refine am_lstore_n (q := 19) (L' := [some (.long (lN s)), none, some (.int (iZ ((q + 1 : Nat) : Int))), some (.long (lN (y &&& (y - 1)))), none]) C dX11_ones_18 rfl (by decide) rfl rfl ?_
        refine am_goto (q := 4) C dX11_ones_19 (by decide) ?_
        have ha := ons_and 64 y (by omega) (by omega)
        exact ih (y &&& (y - 1)) (q + 1) (Nat.lt_of_le_of_lt Nat.and_le_left hy) (by omega) (by omega)
  refine am_iconst (q := 1) (v := iZ 0) C dX11_ones_0 rfl rfl ?_
  refine am_istore_n (q := 2) (L' := [some (.long (lN s)), none, some (.int (iZ 0)), none, none]) C dX11_ones_1 rfl (by decide) rfl rfl ?_
  refine am_lload_n (q := 3) C dX11_ones_2 rfl rfl ?_
  refine am_lstore_n (q := 4) (L' := [some (.long (lN s)), none, some (.int (iZ 0)), some (.long (lN s)), none]) C dX11_ones_3 rfl (by decide) rfl rfl ?_
  exact lp (ons 64 s + 1) s 0 hs (by omega) (by omega)
set_option maxRecDepth 4000 in
theorem sp_X11_lets {σ : SG} (hM : atM I J σ) {p k : Int} (hp : rg p) (hk : rg k) : am_S G mX11_lets 3 0 0 [.ref 191, .int (iZ p), .int (iZ k)] (215, kK, kR, I, J) (am_qi (fun v w' => v = iZ (if (0 ≤ p ∧ p < pm σ.1) ∧ 0 ≤ k ∧ k ≤ 60 then (bitOf (ps σ.1 p.toNat) k.toNat : Int) else -1) ∧ ∃ (I' : Nat → Nat → Int32) (J' : Nat → Nat → Int64), w' = (215, kK, kR, I', J') ∧ atM I' J' (σ) ∧ frM I J I' J')) := by
  have hQ := hM.1
  have hK := hM.2.1
  have hm := hM.2.1.1
  have hL := hM.2.2.1
  refine am_spec (plainFor_of_name (by decide +kernel)) (Nat.le_of_ble_eq_true rfl) (L := [some (.ref 191), some (.int (iZ p)), some (.int (iZ k))]) rfl (fun X C T => ?_)
  refine am_aload_n (q := 1) C dX11_lets_0 rfl rfl ?_
  refine am_iload_n (q := 2) C dX11_lets_1 rfl rfl ?_
  refine am_callV (q := 5) (As := [.int (iZ p)]) (rest := []) C mb_X11_isPart im_X11_isPart se_X11_isPart ml_X11_105 cb_11 kk_191 (show 191 < 215 by decide) dX11_lets_2 rfl (sp_X11_isPart hQ hK hp) rfl rfl ⟨by decide, by decide⟩ ⟨Nat.le_refl _, Nat.le_refl _⟩ (Nat.le_of_ble_eq_true rfl) (am_rie ?_)
  refine am_ifB_eq (q := 8) (tgt := 32) C dX11_lets_5 (by decide) rfl (fun c1 => ?_) (fun c1 => ?_)
  · refine am_iconst (q := 33) (v := iZ (-1)) C dX11_lets_32 rfl rfl ?_
    refine am_iret C T dX11_lets_33 rfl (Nat.le_refl _) (Nat.le_refl _) ⟨_, rfl, ?_⟩
    rw [if_neg (by omega)]
    exact ⟨rfl, _, _, rfl, hM, frM_refl⟩
  · refine am_iload_n (q := 9) C dX11_lets_8 rfl rfl ?_
    refine am_iconst (q := 10) (v := iZ 0) C dX11_lets_9 rfl rfl ?_
    refine am_bipush (q := 12) (v := iZ 60) C dX11_lets_10 rfl rfl ?_
    refine am_callS (q := 15) (As := [.int (iZ k), .int (iZ 0), .int (iZ 60)]) (rest := []) C mb_X11_in st_X11_in ml_X11_89 dX11_lets_12 rfl (sp_X11_in (v := k) (a := 0) (b := 60) hk ⟨by omega, by omega⟩ ⟨by omega, by omega⟩) rfl rfl ⟨by decide, by decide⟩ ⟨Nat.le_refl _, Nat.le_refl _⟩ (Nat.le_of_ble_eq_true rfl) (am_rie ?_)
    refine am_ifB_eq (q := 18) (tgt := 32) C dX11_lets_15 (by decide) rfl (fun c2 => ?_) (fun c2 => ?_)
    · refine am_iconst (q := 33) (v := iZ (-1)) C dX11_lets_32 rfl rfl ?_
      refine am_iret C T dX11_lets_33 rfl (Nat.le_refl _) (Nat.le_refl _) ⟨_, rfl, ?_⟩
      rw [if_neg (by omega)]
      exact ⟨rfl, _, _, rfl, hM, frM_refl⟩
    · refine am_aload_n (q := 19) C dX11_lets_18 rfl rfl ?_
      refine am_getR (q := 22) C fb_X11_25 dX11_lets_19 rfl rfl kk_191 (show 191 < 215 by decide) kr_191_7 ?_
      refine am_iload_n (q := 23) C dX11_lets_22 rfl rfl ?_
      refine am_laloadZ (q := 24) p.toNat C dX11_lets_23 rfl kk_195 (show 195 < 215 by decide) (by omega) (by omega) (by decide) ?_
      refine am_longE (y := (lN (ps σ.1 p.toNat))) (hQ.2 p.toNat (by omega)).2.2.2 ?_
      refine am_iload_n (q := 25) C dX11_lets_24 rfl rfl ?_
      refine am_lshr (q := 26) C dX11_lets_25 rfl ?_
      refine am_lconst (q := 27) (v := lN 1) C dX11_lets_26 rfl rfl ?_
      refine am_land (q := 28) C dX11_lets_27 rfl ?_
      refine am_longE (y := (lN (bitOf (ps σ.1 p.toNat) k.toNat))) (bit_M (hK.2 p.toNat (by omega)).2.2.2.2.2 (by omega)) ?_
      refine am_l2i (q := 29) C dX11_lets_28 rfl ?_
      refine am_intE (y := (iZ (bitOf (ps σ.1 p.toNat) k.toNat : Int))) (l32 _) ?_
      refine am_goto (q := 33) C dX11_lets_29 (by decide) ?_
      refine am_iret C T dX11_lets_33 rfl (Nat.le_refl _) (Nat.le_refl _) ⟨_, rfl, ?_⟩
      rw [if_pos (by omega)]
      exact ⟨rfl, _, _, rfl, hM, frM_refl⟩
theorem curL_0 (t : PT) (u : Nat → PT) : curL t u 0 = t := rfl
theorem atL_pop {n : Nat} {u : Nat → PT} {t : PT} {I' : Nat → Nat → Int32} {J' : Nat → Nat → Int64} (h : atL I J n u t) (hn : 1 ≤ n) (h19 : I' 191 19 = iZ ((n - 1 : Nat) : Int)) (hI : ∀ r, 200 ≤ r → r ≤ 204 → I' r = I r) (hJ : J' 205 = J 205) : atL I' J' (n - 1) (fun i => u (i + 1)) (u 0) := by
  have hn30 := h.2.1
  refine ⟨h19, by omega, fun i hi => h.2.2.1 (i + 1) (by omega), fun i hi => ?_⟩
  have g := h.2.2.2 (i + 1) (by omega)
  have e1 : curL (u 0) (fun i => u (i + 1)) i = curL t u (i + 1) := by
    unfold curL
    by_cases e : i = 0
    · subst e; rfl
    · rw [if_neg e, if_neg (by omega)]
      show u (i - 1 + 1) = u (i + 1 - 1)
      rw [show i - 1 + 1 = i + 1 - 1 by omega]
  rw [e1, show n - 1 - 1 - i = n - 1 - (i + 1) by omega]
  exact g.on (fun r g1 g2 => by rw [hI r g1 g2]) (by rw [hJ])
set_option maxRecDepth 4000 in
theorem sp_X11_undo {σ : SG} (hM : atM I J σ) : am_S G mX11_undo 2 0 0 [.ref 191] (215, kK, kR, I, J) (am_qi (fun v w' => v = iZ (if 1 ≤ σ.2.1.1 then ((σ.2.1.1 - 1 : Nat) : Int) else -3) ∧ ∃ (I' : Nat → Nat → Int32) (J' : Nat → Nat → Int64), w' = (215, kK, kR, I', J') ∧ atM I' J' (if 1 ≤ σ.2.1.1 then (σ.2.1.2 0, (σ.2.1.1 - 1, fun i => σ.2.1.2 (i + 1)), σ.2.2) else σ) ∧ frM I J I' J')) := by
  have hQ := hM.1
  have hK := hM.2.1
  have hm := hM.2.1.1
  have hL := hM.2.2.1
  refine am_spec (plainFor_of_name (by decide +kernel)) (Nat.le_of_ble_eq_true rfl) (L := [some (.ref 191), none]) rfl (fun X C T => ?_)
  have hn30 := hL.2.1
  refine am_aload_n (q := 1) C dX11_undo_0 rfl rfl ?_
  refine am_getIe (q := 4) (v := (iZ (σ.2.1.1 : Int))) C fb_X11_93 dX11_undo_1 rfl rfl kk_191 (show 191 < 215 by decide) hL.1 ?_
  refine am_ifZ_ne (q := 7) (tgt := 10) C dX11_undo_4 (by decide) rfl ⟨by omega, by omega⟩ (fun c1 => ?_) (fun c1 => ?_)
  · have hk0 := (hL.2.2.1 0 (by omega)).1
    have h0 := hL.2.2.2 0 (by omega)
    rw [curL_0, show σ.2.1.1 - 1 - 0 = σ.2.1.1 - 1 by omega] at h0
    rcases h0 with ⟨k0, kp, ks⟩ | ⟨k0, kp, k1, ⟨w1, w2, w3, w4⟩, ks⟩ | ⟨q, z, hz, k0, hq, kp, k1, ⟨w1, w2, w3, w4⟩, ks⟩
    · refine am_aload_n (q := 11) C dX11_undo_10 rfl rfl ?_
      refine am_dup (q := 12) C dX11_undo_11 rfl rfl ?_
      refine am_getIe (q := 15) (v := (iZ (σ.2.1.1 : Int))) C fb_X11_93 dX11_undo_12 rfl rfl kk_191 (show 191 < 215 by decide) hL.1 ?_
      refine am_iconst (q := 16) (v := iZ 1) C dX11_undo_15 rfl rfl ?_
      refine am_isubZ (q := 17) C dX11_undo_16 rfl ?_
      refine am_intE (y := (iZ ((σ.2.1.1 - 1 : Nat) : Int))) (congrArg iZ (by omega)) ?_
      refine am_putI (q := 20) C fw_X11_93 dX11_undo_17 rfl rfl kk_191 (show 191 < 215 by decide) ?_
      refine am_aload_n (q := 21) C dX11_undo_20 rfl rfl ?_
      refine am_getR (q := 24) C fb_X11_44 dX11_undo_21 rfl rfl kk_191 (show 191 < 215 by decide) kr_191_14 ?_
      refine am_aload_n (q := 25) C dX11_undo_24 rfl rfl ?_
      refine am_getIe (q := 28) (v := (iZ ((σ.2.1.1 - 1 : Nat) : Int))) C fb_X11_93 dX11_undo_25 rfl rfl kk_191 (show 191 < 215 by decide) (by rw [am_up_eq]) ?_
      refine am_ialoadZ (q := 29) (σ.2.1.1 - 1) C dX11_undo_28 rfl kk_201 (show 201 < 215 by decide) rfl (by omega) (by decide) ?_
      refine am_intE (y := (I 201 (σ.2.1.1 - 1))) (by rw [am_up_row _ _ _ _ (by decide)]) ?_
      refine am_istore_n (q := 30) (L' := [some (.ref 191), some (.int (I 201 (σ.2.1.1 - 1)))]) C dX11_undo_29 rfl (by decide) rfl rfl ?_
      refine am_aload_n (q := 31) C dX11_undo_30 rfl rfl ?_
      refine am_getR (q := 34) C fb_X11_41 dX11_undo_31 rfl rfl kk_191 (show 191 < 215 by decide) kr_191_13 ?_
      refine am_aload_n (q := 35) C dX11_undo_34 rfl rfl ?_
      refine am_getIe (q := 38) (v := (iZ ((σ.2.1.1 - 1 : Nat) : Int))) C fb_X11_93 dX11_undo_35 rfl rfl kk_191 (show 191 < 215 by decide) (by rw [am_up_eq]) ?_
      refine am_ialoadZ (q := 39) (σ.2.1.1 - 1) C dX11_undo_38 rfl kk_200 (show 200 < 215 by decide) rfl (by omega) (by decide) ?_
      refine am_intE (y := (iZ 0)) (by rw [am_up_row _ _ _ _ (by decide)]; exact k0) ?_
      refine am_ifZ_ne (q := 42) (tgt := 57) C dX11_undo_39 (by decide) rfl ⟨by omega, by omega⟩ (fun c1 => ?_) (fun c1 => ?_)
      · exact absurd c1 (by decide)
      · refine am_aload_n (q := 43) C dX11_undo_42 rfl rfl ?_
        refine am_dup (q := 44) C dX11_undo_43 rfl rfl ?_
        refine am_getIe (q := 47) (v := (iZ (pm σ.1 : Int))) C fb_X11_86 dX11_undo_44 rfl rfl kk_191 (show 191 < 215 by decide) (by rw [am_up_ne _ _ _ _ (Or.inr (by decide))]; exact hQ.1) ?_
        refine am_iconst (q := 48) (v := iZ 1) C dX11_undo_47 rfl rfl ?_
        refine am_isubZ (q := 49) C dX11_undo_48 rfl ?_
        refine am_putI (q := 52) C fw_X11_86 dX11_undo_49 rfl rfl kk_191 (show 191 < 215 by decide) ?_
        refine am_aload_n (q := 53) C dX11_undo_52 rfl rfl ?_
        refine am_getIe (q := 56) (v := (iZ ((σ.2.1.1 - 1 : Nat) : Int))) C fb_X11_93 dX11_undo_53 rfl rfl kk_191 (show 191 < 215 by decide) (by rw [am_up_ne _ _ _ _ (Or.inr (by decide)), am_up_eq]) ?_
        refine am_iret C T dX11_undo_56 rfl (Nat.le_refl _) (Nat.le_refl _) ⟨_, rfl, ?_⟩
        rw [if_pos (by omega), if_pos (by omega)]
        have hQ' : atQ ((am_up (am_up I 191 19 (iZ ((σ.2.1.1 - 1 : Nat) : Int))) 191 0 (iZ ((pm σ.1 : Int) - 1)))) (J) (σ.2.1.2 0) := by
          refine ⟨by rw [am_up_eq]; exact congrArg iZ (by omega), fun p hp => ?_⟩
          rw [am_up_row _ _ _ _ (by omega), am_up_row _ _ _ _ (by omega), am_up_row _ _ _ _ (by omega), am_up_row _ _ _ _ (by omega), am_up_row _ _ _ _ (by omega), am_up_row _ _ _ _ (by omega)]
          obtain ⟨e1, e2, e3, e4⟩ := ks p hp
          obtain ⟨q1, q2, q3, q4⟩ := hQ.2 p (by omega)
          rw [← e1, ← e2, ← e3, ← e4]
          exact ⟨q1, q2, q3, q4⟩
        have hL' := atL_pop (I' := (am_up (am_up I 191 19 (iZ ((σ.2.1.1 - 1 : Nat) : Int))) 191 0 (iZ ((pm σ.1 : Int) - 1)))) (J' := J) hL (by omega) (by simp [am_up]) (fun r g1 g2 => by rw [am_up_row _ _ _ _ (by omega), am_up_row _ _ _ _ (by omega)]) (rfl)
        have hfin := atM_frL (t := σ.2.1.2 0) (u := (σ.2.1.1 - 1, fun i => σ.2.1.2 (i + 1))) hM (I' := (am_up (am_up I 191 19 (iZ ((σ.2.1.1 - 1 : Nat) : Int))) 191 0 (iZ ((pm σ.1 : Int) - 1)))) (J' := J) (by simp [am_up]) (by simp [am_up]) (by simp [am_up]) (by simp [am_up]) (by simp [am_up]) (fun x hx => ⟨by rw [am_up_row _ _ _ _ (by omega), am_up_row _ _ _ _ (by omega)], rfl⟩) hQ' (hL.2.2.1 0 (by omega)) hL'
        exact ⟨rfl, _, _, rfl, hfin, fun x hx => ⟨by rw [am_up_row _ _ _ _ (by omega), am_up_row _ _ _ _ (by omega)], rfl⟩⟩
    · refine am_aload_n (q := 11) C dX11_undo_10 rfl rfl ?_
      refine am_dup (q := 12) C dX11_undo_11 rfl rfl ?_
      refine am_getIe (q := 15) (v := (iZ (σ.2.1.1 : Int))) C fb_X11_93 dX11_undo_12 rfl rfl kk_191 (show 191 < 215 by decide) hL.1 ?_
      refine am_iconst (q := 16) (v := iZ 1) C dX11_undo_15 rfl rfl ?_
      refine am_isubZ (q := 17) C dX11_undo_16 rfl ?_
      refine am_intE (y := (iZ ((σ.2.1.1 - 1 : Nat) : Int))) (congrArg iZ (by omega)) ?_
      refine am_putI (q := 20) C fw_X11_93 dX11_undo_17 rfl rfl kk_191 (show 191 < 215 by decide) ?_
      refine am_aload_n (q := 21) C dX11_undo_20 rfl rfl ?_
      refine am_getR (q := 24) C fb_X11_44 dX11_undo_21 rfl rfl kk_191 (show 191 < 215 by decide) kr_191_14 ?_
      refine am_aload_n (q := 25) C dX11_undo_24 rfl rfl ?_
      refine am_getIe (q := 28) (v := (iZ ((σ.2.1.1 - 1 : Nat) : Int))) C fb_X11_93 dX11_undo_25 rfl rfl kk_191 (show 191 < 215 by decide) (by rw [am_up_eq]) ?_
      refine am_ialoadZ (q := 29) (σ.2.1.1 - 1) C dX11_undo_28 rfl kk_201 (show 201 < 215 by decide) rfl (by omega) (by decide) ?_
      refine am_intE (y := (iZ (pm σ.1 : Int))) (by rw [am_up_row _ _ _ _ (by decide)]; exact k1) ?_
      refine am_istore_n (q := 30) (L' := [some (.ref 191), some (.int (iZ (pm σ.1 : Int)))]) C dX11_undo_29 rfl (by decide) rfl rfl ?_
      refine am_aload_n (q := 31) C dX11_undo_30 rfl rfl ?_
      refine am_getR (q := 34) C fb_X11_41 dX11_undo_31 rfl rfl kk_191 (show 191 < 215 by decide) kr_191_13 ?_
      refine am_aload_n (q := 35) C dX11_undo_34 rfl rfl ?_
      refine am_getIe (q := 38) (v := (iZ ((σ.2.1.1 - 1 : Nat) : Int))) C fb_X11_93 dX11_undo_35 rfl rfl kk_191 (show 191 < 215 by decide) (by rw [am_up_eq]) ?_
      refine am_ialoadZ (q := 39) (σ.2.1.1 - 1) C dX11_undo_38 rfl kk_200 (show 200 < 215 by decide) rfl (by omega) (by decide) ?_
      refine am_intE (y := (iZ 1)) (by rw [am_up_row _ _ _ _ (by decide)]; exact k0) ?_
      refine am_ifZ_ne (q := 42) (tgt := 57) C dX11_undo_39 (by decide) rfl ⟨by omega, by omega⟩ (fun c1 => ?_) (fun c1 => ?_)
      · refine am_aload_n (q := 58) C dX11_undo_57 rfl rfl ?_
        refine am_dup (q := 59) C dX11_undo_58 rfl rfl ?_
        refine am_getIe (q := 62) (v := (iZ (pm σ.1 : Int))) C fb_X11_86 dX11_undo_59 rfl rfl kk_191 (show 191 < 215 by decide) (by rw [am_up_ne _ _ _ _ (Or.inr (by decide))]; exact hQ.1) ?_
        refine am_aload_n (q := 63) C dX11_undo_62 rfl rfl ?_
        refine am_getR (q := 66) C fb_X11_41 dX11_undo_63 rfl rfl kk_191 (show 191 < 215 by decide) kr_191_13 ?_
        refine am_aload_n (q := 67) C dX11_undo_66 rfl rfl ?_
        refine am_getIe (q := 70) (v := (iZ ((σ.2.1.1 - 1 : Nat) : Int))) C fb_X11_93 dX11_undo_67 rfl rfl kk_191 (show 191 < 215 by decide) (by rw [am_up_eq]) ?_
        refine am_ialoadZ (q := 71) (σ.2.1.1 - 1) C dX11_undo_70 rfl kk_200 (show 200 < 215 by decide) rfl (by omega) (by decide) ?_
        refine am_intE (y := (iZ 1)) (by rw [am_up_row _ _ _ _ (by decide)]; exact k0) ?_
        refine am_iconst (q := 72) (v := iZ 1) C dX11_undo_71 rfl rfl ?_
        refine am_icmpZ_ne (q := 75) (tgt := 79) C dX11_undo_72 (by decide) rfl ⟨by omega, by omega⟩ ⟨by omega, by omega⟩ (fun c2 => ?_) (fun c2 => ?_)
        · exact absurd c2 (by decide)
        · refine am_iconst (q := 76) (v := iZ 1) C dX11_undo_75 rfl rfl ?_
          refine am_goto (q := 80) C dX11_undo_76 (by decide) ?_
          refine am_iaddZ (q := 81) C dX11_undo_80 rfl ?_
          refine am_putI (q := 84) C fw_X11_86 dX11_undo_81 rfl rfl kk_191 (show 191 < 215 by decide) ?_
          refine am_aload_n (q := 85) C dX11_undo_84 rfl rfl ?_
          refine am_getR (q := 88) C fb_X11_15 dX11_undo_85 rfl rfl kk_191 (show 191 < 215 by decide) kr_191_4 ?_
          refine am_iload_n (q := 89) C dX11_undo_88 rfl rfl ?_
          refine am_aload_n (q := 90) C dX11_undo_89 rfl rfl ?_
          refine am_getR (q := 93) C fb_X11_47 dX11_undo_90 rfl rfl kk_191 (show 191 < 215 by decide) kr_191_15 ?_
          refine am_aload_n (q := 94) C dX11_undo_93 rfl rfl ?_
          refine am_getIe (q := 97) (v := (iZ ((σ.2.1.1 - 1 : Nat) : Int))) C fb_X11_93 dX11_undo_94 rfl rfl kk_191 (show 191 < 215 by decide) (by rw [am_up_ne _ _ _ _ (Or.inr (by decide)), am_up_eq]) ?_
          refine am_ialoadZ (q := 98) (σ.2.1.1 - 1) C dX11_undo_97 rfl kk_202 (show 202 < 215 by decide) rfl (by omega) (by decide) ?_
          refine am_intE (y := (iZ (pa (σ.2.1.2 0) (pm σ.1) : Int))) (by rw [am_up_row _ _ _ _ (by decide), am_up_row _ _ _ _ (by decide)]; exact w1) ?_
          refine am_iastoreZ (q := 99) (pm σ.1) C dX11_undo_98 rfl kk_192 (show 192 < 215 by decide) rfl (by omega) (by decide) ?_
          refine am_aload_n (q := 100) C dX11_undo_99 rfl rfl ?_
          refine am_getR (q := 103) C fb_X11_19 dX11_undo_100 rfl rfl kk_191 (show 191 < 215 by decide) kr_191_5 ?_
          refine am_iload_n (q := 104) C dX11_undo_103 rfl rfl ?_
          refine am_aload_n (q := 105) C dX11_undo_104 rfl rfl ?_
          refine am_getR (q := 108) C fb_X11_50 dX11_undo_105 rfl rfl kk_191 (show 191 < 215 by decide) kr_191_16 ?_
          refine am_aload_n (q := 109) C dX11_undo_108 rfl rfl ?_
          refine am_getIe (q := 112) (v := (iZ ((σ.2.1.1 - 1 : Nat) : Int))) C fb_X11_93 dX11_undo_109 rfl rfl kk_191 (show 191 < 215 by decide) (by rw [am_up_row _ _ _ _ (by decide), am_up_ne _ _ _ _ (Or.inr (by decide)), am_up_eq]) ?_
          refine am_ialoadZ (q := 113) (σ.2.1.1 - 1) C dX11_undo_112 rfl kk_203 (show 203 < 215 by decide) rfl (by omega) (by decide) ?_
          refine am_intE (y := (iZ (pb (σ.2.1.2 0) (pm σ.1) : Int))) (by rw [am_up_row _ _ _ _ (by decide), am_up_row _ _ _ _ (by decide), am_up_row _ _ _ _ (by decide)]; exact w2) ?_
          refine am_iastoreZ (q := 114) (pm σ.1) C dX11_undo_113 rfl kk_193 (show 193 < 215 by decide) rfl (by omega) (by decide) ?_
          refine am_aload_n (q := 115) C dX11_undo_114 rfl rfl ?_
          refine am_getR (q := 118) C fb_X11_22 dX11_undo_115 rfl rfl kk_191 (show 191 < 215 by decide) kr_191_6 ?_
          refine am_iload_n (q := 119) C dX11_undo_118 rfl rfl ?_
          refine am_aload_n (q := 120) C dX11_undo_119 rfl rfl ?_
          refine am_getR (q := 123) C fb_X11_53 dX11_undo_120 rfl rfl kk_191 (show 191 < 215 by decide) kr_191_17 ?_
          refine am_aload_n (q := 124) C dX11_undo_123 rfl rfl ?_
          refine am_getIe (q := 127) (v := (iZ ((σ.2.1.1 - 1 : Nat) : Int))) C fb_X11_93 dX11_undo_124 rfl rfl kk_191 (show 191 < 215 by decide) (by rw [am_up_row _ _ _ _ (by decide), am_up_row _ _ _ _ (by decide), am_up_ne _ _ _ _ (Or.inr (by decide)), am_up_eq]) ?_
          refine am_ialoadZ (q := 128) (σ.2.1.1 - 1) C dX11_undo_127 rfl kk_204 (show 204 < 215 by decide) rfl (by omega) (by decide) ?_
          refine am_intE (y := (iZ (pw (σ.2.1.2 0) (pm σ.1) : Int))) (by rw [am_up_row _ _ _ _ (by decide), am_up_row _ _ _ _ (by decide), am_up_row _ _ _ _ (by decide), am_up_row _ _ _ _ (by decide)]; exact w3) ?_
          refine am_iastoreZ (q := 129) (pm σ.1) C dX11_undo_128 rfl kk_194 (show 194 < 215 by decide) rfl (by omega) (by decide) ?_
          refine am_aload_n (q := 130) C dX11_undo_129 rfl rfl ?_
          refine am_getR (q := 133) C fb_X11_25 dX11_undo_130 rfl rfl kk_191 (show 191 < 215 by decide) kr_191_7 ?_
          refine am_iload_n (q := 134) C dX11_undo_133 rfl rfl ?_
          refine am_aload_n (q := 135) C dX11_undo_134 rfl rfl ?_
          refine am_getR (q := 138) C fb_X11_56 dX11_undo_135 rfl rfl kk_191 (show 191 < 215 by decide) kr_191_18 ?_
          refine am_aload_n (q := 139) C dX11_undo_138 rfl rfl ?_
          refine am_getIe (q := 142) (v := (iZ ((σ.2.1.1 - 1 : Nat) : Int))) C fb_X11_93 dX11_undo_139 rfl rfl kk_191 (show 191 < 215 by decide) (by rw [am_up_row _ _ _ _ (by decide), am_up_row _ _ _ _ (by decide), am_up_row _ _ _ _ (by decide), am_up_ne _ _ _ _ (Or.inr (by decide)), am_up_eq]) ?_
          refine am_laloadZ (q := 143) (σ.2.1.1 - 1) C dX11_undo_142 rfl kk_205 (show 205 < 215 by decide) rfl (by omega) (by decide) ?_
          refine am_longE (y := (lN (ps (σ.2.1.2 0) (pm σ.1)))) w4 ?_
          refine am_lastoreZ (q := 144) (pm σ.1) C dX11_undo_143 rfl kk_195 (show 195 < 215 by decide) rfl (by omega) (by decide) ?_
          refine am_aload_n (q := 145) C dX11_undo_144 rfl rfl ?_
          refine am_getIe (q := 148) (v := (iZ ((σ.2.1.1 - 1 : Nat) : Int))) C fb_X11_93 dX11_undo_145 rfl rfl kk_191 (show 191 < 215 by decide) (by rw [am_up_row _ _ _ _ (by decide), am_up_row _ _ _ _ (by decide), am_up_row _ _ _ _ (by decide), am_up_ne _ _ _ _ (Or.inr (by decide)), am_up_eq]) ?_
          refine am_iret C T dX11_undo_148 rfl (Nat.le_refl _) (Nat.le_refl _) ⟨_, rfl, ?_⟩
          rw [if_pos (by omega), if_pos (by omega)]
          have hQ' : atQ ((am_up (am_up (am_up (am_up (am_up I 191 19 (iZ ((σ.2.1.1 - 1 : Nat) : Int))) 191 0 (iZ ((pm σ.1 : Int) + 1))) 192 (pm σ.1) (iZ (pa (σ.2.1.2 0) (pm σ.1) : Int))) 193 (pm σ.1) (iZ (pb (σ.2.1.2 0) (pm σ.1) : Int))) 194 (pm σ.1) (iZ (pw (σ.2.1.2 0) (pm σ.1) : Int)))) ((am_up J 195 (pm σ.1) (lN (ps (σ.2.1.2 0) (pm σ.1))))) (σ.2.1.2 0) := by
            refine ⟨by simp [am_up]; exact congrArg iZ (by omega), fun p hp => ?_⟩
            by_cases e : p = pm σ.1
            · rw [e]; simp [am_up]
            · obtain ⟨e1, e2, e3, e4⟩ := ks p (by omega)
              obtain ⟨q1, q2, q3, q4⟩ := hQ.2 p (by omega)
              rw [← e1, ← e2, ← e3, ← e4]
              simp [am_up, e]
              exact ⟨q1, q2, q3, q4⟩
          have hL' := atL_pop (I' := (am_up (am_up (am_up (am_up (am_up I 191 19 (iZ ((σ.2.1.1 - 1 : Nat) : Int))) 191 0 (iZ ((pm σ.1 : Int) + 1))) 192 (pm σ.1) (iZ (pa (σ.2.1.2 0) (pm σ.1) : Int))) 193 (pm σ.1) (iZ (pb (σ.2.1.2 0) (pm σ.1) : Int))) 194 (pm σ.1) (iZ (pw (σ.2.1.2 0) (pm σ.1) : Int)))) (J' := (am_up J 195 (pm σ.1) (lN (ps (σ.2.1.2 0) (pm σ.1))))) hL (by omega) (by simp [am_up]) (fun r g1 g2 => by rw [am_up_row _ _ _ _ (by omega), am_up_row _ _ _ _ (by omega), am_up_row _ _ _ _ (by omega), am_up_row _ _ _ _ (by omega), am_up_row _ _ _ _ (by omega)]) (by rw [am_up_row _ _ _ _ (by omega)])
          have hfin := atM_frL (t := σ.2.1.2 0) (u := (σ.2.1.1 - 1, fun i => σ.2.1.2 (i + 1))) hM (I' := (am_up (am_up (am_up (am_up (am_up I 191 19 (iZ ((σ.2.1.1 - 1 : Nat) : Int))) 191 0 (iZ ((pm σ.1 : Int) + 1))) 192 (pm σ.1) (iZ (pa (σ.2.1.2 0) (pm σ.1) : Int))) 193 (pm σ.1) (iZ (pb (σ.2.1.2 0) (pm σ.1) : Int))) 194 (pm σ.1) (iZ (pw (σ.2.1.2 0) (pm σ.1) : Int)))) (J' := (am_up J 195 (pm σ.1) (lN (ps (σ.2.1.2 0) (pm σ.1))))) (by simp [am_up]) (by simp [am_up]) (by simp [am_up]) (by simp [am_up]) (by simp [am_up]) (fun x hx => ⟨by rw [am_up_row _ _ _ _ (by omega), am_up_row _ _ _ _ (by omega), am_up_row _ _ _ _ (by omega), am_up_row _ _ _ _ (by omega), am_up_row _ _ _ _ (by omega)], by rw [am_up_row _ _ _ _ (by omega)]⟩) hQ' (hL.2.2.1 0 (by omega)) hL'
          exact ⟨rfl, _, _, rfl, hfin, fun x hx => ⟨by rw [am_up_row _ _ _ _ (by omega), am_up_row _ _ _ _ (by omega), am_up_row _ _ _ _ (by omega), am_up_row _ _ _ _ (by omega), am_up_row _ _ _ _ (by omega)], by rw [am_up_row _ _ _ _ (by omega)]⟩⟩
      · exact absurd c1 (by decide)
    · rcases hz with hz | hz
      · subst hz
        refine am_aload_n (q := 11) C dX11_undo_10 rfl rfl ?_
        refine am_dup (q := 12) C dX11_undo_11 rfl rfl ?_
        refine am_getIe (q := 15) (v := (iZ (σ.2.1.1 : Int))) C fb_X11_93 dX11_undo_12 rfl rfl kk_191 (show 191 < 215 by decide) hL.1 ?_
        refine am_iconst (q := 16) (v := iZ 1) C dX11_undo_15 rfl rfl ?_
        refine am_isubZ (q := 17) C dX11_undo_16 rfl ?_
        refine am_intE (y := (iZ ((σ.2.1.1 - 1 : Nat) : Int))) (congrArg iZ (by omega)) ?_
        refine am_putI (q := 20) C fw_X11_93 dX11_undo_17 rfl rfl kk_191 (show 191 < 215 by decide) ?_
        refine am_aload_n (q := 21) C dX11_undo_20 rfl rfl ?_
        refine am_getR (q := 24) C fb_X11_44 dX11_undo_21 rfl rfl kk_191 (show 191 < 215 by decide) kr_191_14 ?_
        refine am_aload_n (q := 25) C dX11_undo_24 rfl rfl ?_
        refine am_getIe (q := 28) (v := (iZ ((σ.2.1.1 - 1 : Nat) : Int))) C fb_X11_93 dX11_undo_25 rfl rfl kk_191 (show 191 < 215 by decide) (by rw [am_up_eq]) ?_
        refine am_ialoadZ (q := 29) (σ.2.1.1 - 1) C dX11_undo_28 rfl kk_201 (show 201 < 215 by decide) rfl (by omega) (by decide) ?_
        refine am_intE (y := (iZ (q : Int))) (by rw [am_up_row _ _ _ _ (by decide)]; exact k1) ?_
        refine am_istore_n (q := 30) (L' := [some (.ref 191), some (.int (iZ (q : Int)))]) C dX11_undo_29 rfl (by decide) rfl rfl ?_
        refine am_aload_n (q := 31) C dX11_undo_30 rfl rfl ?_
        refine am_getR (q := 34) C fb_X11_41 dX11_undo_31 rfl rfl kk_191 (show 191 < 215 by decide) kr_191_13 ?_
        refine am_aload_n (q := 35) C dX11_undo_34 rfl rfl ?_
        refine am_getIe (q := 38) (v := (iZ ((σ.2.1.1 - 1 : Nat) : Int))) C fb_X11_93 dX11_undo_35 rfl rfl kk_191 (show 191 < 215 by decide) (by rw [am_up_eq]) ?_
        refine am_ialoadZ (q := 39) (σ.2.1.1 - 1) C dX11_undo_38 rfl kk_200 (show 200 < 215 by decide) rfl (by omega) (by decide) ?_
        refine am_intE (y := (iZ 2)) (by rw [am_up_row _ _ _ _ (by decide)]; exact k0) ?_
        refine am_ifZ_ne (q := 42) (tgt := 57) C dX11_undo_39 (by decide) rfl ⟨by omega, by omega⟩ (fun c1 => ?_) (fun c1 => ?_)
        · refine am_aload_n (q := 58) C dX11_undo_57 rfl rfl ?_
          refine am_dup (q := 59) C dX11_undo_58 rfl rfl ?_
          refine am_getIe (q := 62) (v := (iZ (pm σ.1 : Int))) C fb_X11_86 dX11_undo_59 rfl rfl kk_191 (show 191 < 215 by decide) (by rw [am_up_ne _ _ _ _ (Or.inr (by decide))]; exact hQ.1) ?_
          refine am_aload_n (q := 63) C dX11_undo_62 rfl rfl ?_
          refine am_getR (q := 66) C fb_X11_41 dX11_undo_63 rfl rfl kk_191 (show 191 < 215 by decide) kr_191_13 ?_
          refine am_aload_n (q := 67) C dX11_undo_66 rfl rfl ?_
          refine am_getIe (q := 70) (v := (iZ ((σ.2.1.1 - 1 : Nat) : Int))) C fb_X11_93 dX11_undo_67 rfl rfl kk_191 (show 191 < 215 by decide) (by rw [am_up_eq]) ?_
          refine am_ialoadZ (q := 71) (σ.2.1.1 - 1) C dX11_undo_70 rfl kk_200 (show 200 < 215 by decide) rfl (by omega) (by decide) ?_
          refine am_intE (y := (iZ 2)) (by rw [am_up_row _ _ _ _ (by decide)]; exact k0) ?_
          refine am_iconst (q := 72) (v := iZ 1) C dX11_undo_71 rfl rfl ?_
          refine am_icmpZ_ne (q := 75) (tgt := 79) C dX11_undo_72 (by decide) rfl ⟨by omega, by omega⟩ ⟨by omega, by omega⟩ (fun c2 => ?_) (fun c2 => ?_)
          · refine am_iconst (q := 80) (v := iZ 0) C dX11_undo_79 rfl rfl ?_
            refine am_iaddZ (q := 81) C dX11_undo_80 rfl ?_
            refine am_putI (q := 84) C fw_X11_86 dX11_undo_81 rfl rfl kk_191 (show 191 < 215 by decide) ?_
            refine am_aload_n (q := 85) C dX11_undo_84 rfl rfl ?_
            refine am_getR (q := 88) C fb_X11_15 dX11_undo_85 rfl rfl kk_191 (show 191 < 215 by decide) kr_191_4 ?_
            refine am_iload_n (q := 89) C dX11_undo_88 rfl rfl ?_
            refine am_aload_n (q := 90) C dX11_undo_89 rfl rfl ?_
            refine am_getR (q := 93) C fb_X11_47 dX11_undo_90 rfl rfl kk_191 (show 191 < 215 by decide) kr_191_15 ?_
            refine am_aload_n (q := 94) C dX11_undo_93 rfl rfl ?_
            refine am_getIe (q := 97) (v := (iZ ((σ.2.1.1 - 1 : Nat) : Int))) C fb_X11_93 dX11_undo_94 rfl rfl kk_191 (show 191 < 215 by decide) (by rw [am_up_ne _ _ _ _ (Or.inr (by decide)), am_up_eq]) ?_
            refine am_ialoadZ (q := 98) (σ.2.1.1 - 1) C dX11_undo_97 rfl kk_202 (show 202 < 215 by decide) rfl (by omega) (by decide) ?_
            refine am_intE (y := (iZ (pa (σ.2.1.2 0) (q) : Int))) (by rw [am_up_row _ _ _ _ (by decide), am_up_row _ _ _ _ (by decide)]; exact w1) ?_
            refine am_iastoreZ (q := 99) q C dX11_undo_98 rfl kk_192 (show 192 < 215 by decide) rfl (by omega) (by decide) ?_
            refine am_aload_n (q := 100) C dX11_undo_99 rfl rfl ?_
            refine am_getR (q := 103) C fb_X11_19 dX11_undo_100 rfl rfl kk_191 (show 191 < 215 by decide) kr_191_5 ?_
            refine am_iload_n (q := 104) C dX11_undo_103 rfl rfl ?_
            refine am_aload_n (q := 105) C dX11_undo_104 rfl rfl ?_
            refine am_getR (q := 108) C fb_X11_50 dX11_undo_105 rfl rfl kk_191 (show 191 < 215 by decide) kr_191_16 ?_
            refine am_aload_n (q := 109) C dX11_undo_108 rfl rfl ?_
            refine am_getIe (q := 112) (v := (iZ ((σ.2.1.1 - 1 : Nat) : Int))) C fb_X11_93 dX11_undo_109 rfl rfl kk_191 (show 191 < 215 by decide) (by rw [am_up_row _ _ _ _ (by decide), am_up_ne _ _ _ _ (Or.inr (by decide)), am_up_eq]) ?_
            refine am_ialoadZ (q := 113) (σ.2.1.1 - 1) C dX11_undo_112 rfl kk_203 (show 203 < 215 by decide) rfl (by omega) (by decide) ?_
            refine am_intE (y := (iZ (pb (σ.2.1.2 0) (q) : Int))) (by rw [am_up_row _ _ _ _ (by decide), am_up_row _ _ _ _ (by decide), am_up_row _ _ _ _ (by decide)]; exact w2) ?_
            refine am_iastoreZ (q := 114) q C dX11_undo_113 rfl kk_193 (show 193 < 215 by decide) rfl (by omega) (by decide) ?_
            refine am_aload_n (q := 115) C dX11_undo_114 rfl rfl ?_
            refine am_getR (q := 118) C fb_X11_22 dX11_undo_115 rfl rfl kk_191 (show 191 < 215 by decide) kr_191_6 ?_
            refine am_iload_n (q := 119) C dX11_undo_118 rfl rfl ?_
            refine am_aload_n (q := 120) C dX11_undo_119 rfl rfl ?_
            refine am_getR (q := 123) C fb_X11_53 dX11_undo_120 rfl rfl kk_191 (show 191 < 215 by decide) kr_191_17 ?_
            refine am_aload_n (q := 124) C dX11_undo_123 rfl rfl ?_
            refine am_getIe (q := 127) (v := (iZ ((σ.2.1.1 - 1 : Nat) : Int))) C fb_X11_93 dX11_undo_124 rfl rfl kk_191 (show 191 < 215 by decide) (by rw [am_up_row _ _ _ _ (by decide), am_up_row _ _ _ _ (by decide), am_up_ne _ _ _ _ (Or.inr (by decide)), am_up_eq]) ?_
            refine am_ialoadZ (q := 128) (σ.2.1.1 - 1) C dX11_undo_127 rfl kk_204 (show 204 < 215 by decide) rfl (by omega) (by decide) ?_
            refine am_intE (y := (iZ (pw (σ.2.1.2 0) (q) : Int))) (by rw [am_up_row _ _ _ _ (by decide), am_up_row _ _ _ _ (by decide), am_up_row _ _ _ _ (by decide), am_up_row _ _ _ _ (by decide)]; exact w3) ?_
            refine am_iastoreZ (q := 129) q C dX11_undo_128 rfl kk_194 (show 194 < 215 by decide) rfl (by omega) (by decide) ?_
            refine am_aload_n (q := 130) C dX11_undo_129 rfl rfl ?_
            refine am_getR (q := 133) C fb_X11_25 dX11_undo_130 rfl rfl kk_191 (show 191 < 215 by decide) kr_191_7 ?_
            refine am_iload_n (q := 134) C dX11_undo_133 rfl rfl ?_
            refine am_aload_n (q := 135) C dX11_undo_134 rfl rfl ?_
            refine am_getR (q := 138) C fb_X11_56 dX11_undo_135 rfl rfl kk_191 (show 191 < 215 by decide) kr_191_18 ?_
            refine am_aload_n (q := 139) C dX11_undo_138 rfl rfl ?_
            refine am_getIe (q := 142) (v := (iZ ((σ.2.1.1 - 1 : Nat) : Int))) C fb_X11_93 dX11_undo_139 rfl rfl kk_191 (show 191 < 215 by decide) (by rw [am_up_row _ _ _ _ (by decide), am_up_row _ _ _ _ (by decide), am_up_row _ _ _ _ (by decide), am_up_ne _ _ _ _ (Or.inr (by decide)), am_up_eq]) ?_
            refine am_laloadZ (q := 143) (σ.2.1.1 - 1) C dX11_undo_142 rfl kk_205 (show 205 < 215 by decide) rfl (by omega) (by decide) ?_
            refine am_longE (y := (lN (ps (σ.2.1.2 0) (q)))) w4 ?_
            refine am_lastoreZ (q := 144) q C dX11_undo_143 rfl kk_195 (show 195 < 215 by decide) rfl (by omega) (by decide) ?_
            refine am_aload_n (q := 145) C dX11_undo_144 rfl rfl ?_
            refine am_getIe (q := 148) (v := (iZ ((σ.2.1.1 - 1 : Nat) : Int))) C fb_X11_93 dX11_undo_145 rfl rfl kk_191 (show 191 < 215 by decide) (by rw [am_up_row _ _ _ _ (by decide), am_up_row _ _ _ _ (by decide), am_up_row _ _ _ _ (by decide), am_up_ne _ _ _ _ (Or.inr (by decide)), am_up_eq]) ?_
            refine am_iret C T dX11_undo_148 rfl (Nat.le_refl _) (Nat.le_refl _) ⟨_, rfl, ?_⟩
            rw [if_pos (by omega), if_pos (by omega)]
            have hQ' : atQ ((am_up (am_up (am_up (am_up (am_up I 191 19 (iZ ((σ.2.1.1 - 1 : Nat) : Int))) 191 0 (iZ ((pm σ.1 : Int) + 0))) 192 q (iZ (pa (σ.2.1.2 0) (q) : Int))) 193 q (iZ (pb (σ.2.1.2 0) (q) : Int))) 194 q (iZ (pw (σ.2.1.2 0) (q) : Int)))) ((am_up J 195 q (lN (ps (σ.2.1.2 0) (q))))) (σ.2.1.2 0) := by
              refine ⟨by simp [am_up]; exact congrArg iZ (by omega), fun p hp => ?_⟩
              by_cases e : p = q
              · subst e; simp [am_up]
              · obtain ⟨e1, e2, e3, e4⟩ := ks p (by omega) e
                obtain ⟨q1, q2, q3, q4⟩ := hQ.2 p (by omega)
                rw [← e1, ← e2, ← e3, ← e4]
                simp [am_up, e]
                exact ⟨q1, q2, q3, q4⟩
            have hL' := atL_pop (I' := (am_up (am_up (am_up (am_up (am_up I 191 19 (iZ ((σ.2.1.1 - 1 : Nat) : Int))) 191 0 (iZ ((pm σ.1 : Int) + 0))) 192 q (iZ (pa (σ.2.1.2 0) (q) : Int))) 193 q (iZ (pb (σ.2.1.2 0) (q) : Int))) 194 q (iZ (pw (σ.2.1.2 0) (q) : Int)))) (J' := (am_up J 195 q (lN (ps (σ.2.1.2 0) (q))))) hL (by omega) (by simp [am_up]) (fun r g1 g2 => by rw [am_up_row _ _ _ _ (by omega), am_up_row _ _ _ _ (by omega), am_up_row _ _ _ _ (by omega), am_up_row _ _ _ _ (by omega), am_up_row _ _ _ _ (by omega)]) (by rw [am_up_row _ _ _ _ (by omega)])
            have hfin := atM_frL (t := σ.2.1.2 0) (u := (σ.2.1.1 - 1, fun i => σ.2.1.2 (i + 1))) hM (I' := (am_up (am_up (am_up (am_up (am_up I 191 19 (iZ ((σ.2.1.1 - 1 : Nat) : Int))) 191 0 (iZ ((pm σ.1 : Int) + 0))) 192 q (iZ (pa (σ.2.1.2 0) (q) : Int))) 193 q (iZ (pb (σ.2.1.2 0) (q) : Int))) 194 q (iZ (pw (σ.2.1.2 0) (q) : Int)))) (J' := (am_up J 195 q (lN (ps (σ.2.1.2 0) (q))))) (by simp [am_up]) (by simp [am_up]) (by simp [am_up]) (by simp [am_up]) (by simp [am_up]) (fun x hx => ⟨by rw [am_up_row _ _ _ _ (by omega), am_up_row _ _ _ _ (by omega), am_up_row _ _ _ _ (by omega), am_up_row _ _ _ _ (by omega), am_up_row _ _ _ _ (by omega)], by rw [am_up_row _ _ _ _ (by omega)]⟩) hQ' (hL.2.2.1 0 (by omega)) hL'
            exact ⟨rfl, _, _, rfl, hfin, fun x hx => ⟨by rw [am_up_row _ _ _ _ (by omega), am_up_row _ _ _ _ (by omega), am_up_row _ _ _ _ (by omega), am_up_row _ _ _ _ (by omega), am_up_row _ _ _ _ (by omega)], by rw [am_up_row _ _ _ _ (by omega)]⟩⟩
          · exact absurd c2 (by decide)
        · exact absurd c1 (by decide)
      · subst hz
        refine am_aload_n (q := 11) C dX11_undo_10 rfl rfl ?_
        refine am_dup (q := 12) C dX11_undo_11 rfl rfl ?_
        refine am_getIe (q := 15) (v := (iZ (σ.2.1.1 : Int))) C fb_X11_93 dX11_undo_12 rfl rfl kk_191 (show 191 < 215 by decide) hL.1 ?_
        refine am_iconst (q := 16) (v := iZ 1) C dX11_undo_15 rfl rfl ?_
        refine am_isubZ (q := 17) C dX11_undo_16 rfl ?_
        refine am_intE (y := (iZ ((σ.2.1.1 - 1 : Nat) : Int))) (congrArg iZ (by omega)) ?_
        refine am_putI (q := 20) C fw_X11_93 dX11_undo_17 rfl rfl kk_191 (show 191 < 215 by decide) ?_
        refine am_aload_n (q := 21) C dX11_undo_20 rfl rfl ?_
        refine am_getR (q := 24) C fb_X11_44 dX11_undo_21 rfl rfl kk_191 (show 191 < 215 by decide) kr_191_14 ?_
        refine am_aload_n (q := 25) C dX11_undo_24 rfl rfl ?_
        refine am_getIe (q := 28) (v := (iZ ((σ.2.1.1 - 1 : Nat) : Int))) C fb_X11_93 dX11_undo_25 rfl rfl kk_191 (show 191 < 215 by decide) (by rw [am_up_eq]) ?_
        refine am_ialoadZ (q := 29) (σ.2.1.1 - 1) C dX11_undo_28 rfl kk_201 (show 201 < 215 by decide) rfl (by omega) (by decide) ?_
        refine am_intE (y := (iZ (q : Int))) (by rw [am_up_row _ _ _ _ (by decide)]; exact k1) ?_
        refine am_istore_n (q := 30) (L' := [some (.ref 191), some (.int (iZ (q : Int)))]) C dX11_undo_29 rfl (by decide) rfl rfl ?_
        refine am_aload_n (q := 31) C dX11_undo_30 rfl rfl ?_
        refine am_getR (q := 34) C fb_X11_41 dX11_undo_31 rfl rfl kk_191 (show 191 < 215 by decide) kr_191_13 ?_
        refine am_aload_n (q := 35) C dX11_undo_34 rfl rfl ?_
        refine am_getIe (q := 38) (v := (iZ ((σ.2.1.1 - 1 : Nat) : Int))) C fb_X11_93 dX11_undo_35 rfl rfl kk_191 (show 191 < 215 by decide) (by rw [am_up_eq]) ?_
        refine am_ialoadZ (q := 39) (σ.2.1.1 - 1) C dX11_undo_38 rfl kk_200 (show 200 < 215 by decide) rfl (by omega) (by decide) ?_
        refine am_intE (y := (iZ 3)) (by rw [am_up_row _ _ _ _ (by decide)]; exact k0) ?_
        refine am_ifZ_ne (q := 42) (tgt := 57) C dX11_undo_39 (by decide) rfl ⟨by omega, by omega⟩ (fun c1 => ?_) (fun c1 => ?_)
        · refine am_aload_n (q := 58) C dX11_undo_57 rfl rfl ?_
          refine am_dup (q := 59) C dX11_undo_58 rfl rfl ?_
          refine am_getIe (q := 62) (v := (iZ (pm σ.1 : Int))) C fb_X11_86 dX11_undo_59 rfl rfl kk_191 (show 191 < 215 by decide) (by rw [am_up_ne _ _ _ _ (Or.inr (by decide))]; exact hQ.1) ?_
          refine am_aload_n (q := 63) C dX11_undo_62 rfl rfl ?_
          refine am_getR (q := 66) C fb_X11_41 dX11_undo_63 rfl rfl kk_191 (show 191 < 215 by decide) kr_191_13 ?_
          refine am_aload_n (q := 67) C dX11_undo_66 rfl rfl ?_
          refine am_getIe (q := 70) (v := (iZ ((σ.2.1.1 - 1 : Nat) : Int))) C fb_X11_93 dX11_undo_67 rfl rfl kk_191 (show 191 < 215 by decide) (by rw [am_up_eq]) ?_
          refine am_ialoadZ (q := 71) (σ.2.1.1 - 1) C dX11_undo_70 rfl kk_200 (show 200 < 215 by decide) rfl (by omega) (by decide) ?_
          refine am_intE (y := (iZ 3)) (by rw [am_up_row _ _ _ _ (by decide)]; exact k0) ?_
          refine am_iconst (q := 72) (v := iZ 1) C dX11_undo_71 rfl rfl ?_
          refine am_icmpZ_ne (q := 75) (tgt := 79) C dX11_undo_72 (by decide) rfl ⟨by omega, by omega⟩ ⟨by omega, by omega⟩ (fun c2 => ?_) (fun c2 => ?_)
          · refine am_iconst (q := 80) (v := iZ 0) C dX11_undo_79 rfl rfl ?_
            refine am_iaddZ (q := 81) C dX11_undo_80 rfl ?_
            refine am_putI (q := 84) C fw_X11_86 dX11_undo_81 rfl rfl kk_191 (show 191 < 215 by decide) ?_
            refine am_aload_n (q := 85) C dX11_undo_84 rfl rfl ?_
            refine am_getR (q := 88) C fb_X11_15 dX11_undo_85 rfl rfl kk_191 (show 191 < 215 by decide) kr_191_4 ?_
            refine am_iload_n (q := 89) C dX11_undo_88 rfl rfl ?_
            refine am_aload_n (q := 90) C dX11_undo_89 rfl rfl ?_
            refine am_getR (q := 93) C fb_X11_47 dX11_undo_90 rfl rfl kk_191 (show 191 < 215 by decide) kr_191_15 ?_
            refine am_aload_n (q := 94) C dX11_undo_93 rfl rfl ?_
            refine am_getIe (q := 97) (v := (iZ ((σ.2.1.1 - 1 : Nat) : Int))) C fb_X11_93 dX11_undo_94 rfl rfl kk_191 (show 191 < 215 by decide) (by rw [am_up_ne _ _ _ _ (Or.inr (by decide)), am_up_eq]) ?_
            refine am_ialoadZ (q := 98) (σ.2.1.1 - 1) C dX11_undo_97 rfl kk_202 (show 202 < 215 by decide) rfl (by omega) (by decide) ?_
            refine am_intE (y := (iZ (pa (σ.2.1.2 0) (q) : Int))) (by rw [am_up_row _ _ _ _ (by decide), am_up_row _ _ _ _ (by decide)]; exact w1) ?_
            refine am_iastoreZ (q := 99) q C dX11_undo_98 rfl kk_192 (show 192 < 215 by decide) rfl (by omega) (by decide) ?_
            refine am_aload_n (q := 100) C dX11_undo_99 rfl rfl ?_
            refine am_getR (q := 103) C fb_X11_19 dX11_undo_100 rfl rfl kk_191 (show 191 < 215 by decide) kr_191_5 ?_
            refine am_iload_n (q := 104) C dX11_undo_103 rfl rfl ?_
            refine am_aload_n (q := 105) C dX11_undo_104 rfl rfl ?_
            refine am_getR (q := 108) C fb_X11_50 dX11_undo_105 rfl rfl kk_191 (show 191 < 215 by decide) kr_191_16 ?_
            refine am_aload_n (q := 109) C dX11_undo_108 rfl rfl ?_
            refine am_getIe (q := 112) (v := (iZ ((σ.2.1.1 - 1 : Nat) : Int))) C fb_X11_93 dX11_undo_109 rfl rfl kk_191 (show 191 < 215 by decide) (by rw [am_up_row _ _ _ _ (by decide), am_up_ne _ _ _ _ (Or.inr (by decide)), am_up_eq]) ?_
            refine am_ialoadZ (q := 113) (σ.2.1.1 - 1) C dX11_undo_112 rfl kk_203 (show 203 < 215 by decide) rfl (by omega) (by decide) ?_
            refine am_intE (y := (iZ (pb (σ.2.1.2 0) (q) : Int))) (by rw [am_up_row _ _ _ _ (by decide), am_up_row _ _ _ _ (by decide), am_up_row _ _ _ _ (by decide)]; exact w2) ?_
            refine am_iastoreZ (q := 114) q C dX11_undo_113 rfl kk_193 (show 193 < 215 by decide) rfl (by omega) (by decide) ?_
            refine am_aload_n (q := 115) C dX11_undo_114 rfl rfl ?_
            refine am_getR (q := 118) C fb_X11_22 dX11_undo_115 rfl rfl kk_191 (show 191 < 215 by decide) kr_191_6 ?_
            refine am_iload_n (q := 119) C dX11_undo_118 rfl rfl ?_
            refine am_aload_n (q := 120) C dX11_undo_119 rfl rfl ?_
            refine am_getR (q := 123) C fb_X11_53 dX11_undo_120 rfl rfl kk_191 (show 191 < 215 by decide) kr_191_17 ?_
            refine am_aload_n (q := 124) C dX11_undo_123 rfl rfl ?_
            refine am_getIe (q := 127) (v := (iZ ((σ.2.1.1 - 1 : Nat) : Int))) C fb_X11_93 dX11_undo_124 rfl rfl kk_191 (show 191 < 215 by decide) (by rw [am_up_row _ _ _ _ (by decide), am_up_row _ _ _ _ (by decide), am_up_ne _ _ _ _ (Or.inr (by decide)), am_up_eq]) ?_
            refine am_ialoadZ (q := 128) (σ.2.1.1 - 1) C dX11_undo_127 rfl kk_204 (show 204 < 215 by decide) rfl (by omega) (by decide) ?_
            refine am_intE (y := (iZ (pw (σ.2.1.2 0) (q) : Int))) (by rw [am_up_row _ _ _ _ (by decide), am_up_row _ _ _ _ (by decide), am_up_row _ _ _ _ (by decide), am_up_row _ _ _ _ (by decide)]; exact w3) ?_
            refine am_iastoreZ (q := 129) q C dX11_undo_128 rfl kk_194 (show 194 < 215 by decide) rfl (by omega) (by decide) ?_
            refine am_aload_n (q := 130) C dX11_undo_129 rfl rfl ?_
            refine am_getR (q := 133) C fb_X11_25 dX11_undo_130 rfl rfl kk_191 (show 191 < 215 by decide) kr_191_7 ?_
            refine am_iload_n (q := 134) C dX11_undo_133 rfl rfl ?_
            refine am_aload_n (q := 135) C dX11_undo_134 rfl rfl ?_
            refine am_getR (q := 138) C fb_X11_56 dX11_undo_135 rfl rfl kk_191 (show 191 < 215 by decide) kr_191_18 ?_
            refine am_aload_n (q := 139) C dX11_undo_138 rfl rfl ?_
            refine am_getIe (q := 142) (v := (iZ ((σ.2.1.1 - 1 : Nat) : Int))) C fb_X11_93 dX11_undo_139 rfl rfl kk_191 (show 191 < 215 by decide) (by rw [am_up_row _ _ _ _ (by decide), am_up_row _ _ _ _ (by decide), am_up_row _ _ _ _ (by decide), am_up_ne _ _ _ _ (Or.inr (by decide)), am_up_eq]) ?_
            refine am_laloadZ (q := 143) (σ.2.1.1 - 1) C dX11_undo_142 rfl kk_205 (show 205 < 215 by decide) rfl (by omega) (by decide) ?_
            refine am_longE (y := (lN (ps (σ.2.1.2 0) (q)))) w4 ?_
            refine am_lastoreZ (q := 144) q C dX11_undo_143 rfl kk_195 (show 195 < 215 by decide) rfl (by omega) (by decide) ?_
            refine am_aload_n (q := 145) C dX11_undo_144 rfl rfl ?_
            refine am_getIe (q := 148) (v := (iZ ((σ.2.1.1 - 1 : Nat) : Int))) C fb_X11_93 dX11_undo_145 rfl rfl kk_191 (show 191 < 215 by decide) (by rw [am_up_row _ _ _ _ (by decide), am_up_row _ _ _ _ (by decide), am_up_row _ _ _ _ (by decide), am_up_ne _ _ _ _ (Or.inr (by decide)), am_up_eq]) ?_
            refine am_iret C T dX11_undo_148 rfl (Nat.le_refl _) (Nat.le_refl _) ⟨_, rfl, ?_⟩
            rw [if_pos (by omega), if_pos (by omega)]
            have hQ' : atQ ((am_up (am_up (am_up (am_up (am_up I 191 19 (iZ ((σ.2.1.1 - 1 : Nat) : Int))) 191 0 (iZ ((pm σ.1 : Int) + 0))) 192 q (iZ (pa (σ.2.1.2 0) (q) : Int))) 193 q (iZ (pb (σ.2.1.2 0) (q) : Int))) 194 q (iZ (pw (σ.2.1.2 0) (q) : Int)))) ((am_up J 195 q (lN (ps (σ.2.1.2 0) (q))))) (σ.2.1.2 0) := by
              refine ⟨by simp [am_up]; exact congrArg iZ (by omega), fun p hp => ?_⟩
              by_cases e : p = q
              · subst e; simp [am_up]
              · obtain ⟨e1, e2, e3, e4⟩ := ks p (by omega) e
                obtain ⟨q1, q2, q3, q4⟩ := hQ.2 p (by omega)
                rw [← e1, ← e2, ← e3, ← e4]
                simp [am_up, e]
                exact ⟨q1, q2, q3, q4⟩
            have hL' := atL_pop (I' := (am_up (am_up (am_up (am_up (am_up I 191 19 (iZ ((σ.2.1.1 - 1 : Nat) : Int))) 191 0 (iZ ((pm σ.1 : Int) + 0))) 192 q (iZ (pa (σ.2.1.2 0) (q) : Int))) 193 q (iZ (pb (σ.2.1.2 0) (q) : Int))) 194 q (iZ (pw (σ.2.1.2 0) (q) : Int)))) (J' := (am_up J 195 q (lN (ps (σ.2.1.2 0) (q))))) hL (by omega) (by simp [am_up]) (fun r g1 g2 => by rw [am_up_row _ _ _ _ (by omega), am_up_row _ _ _ _ (by omega), am_up_row _ _ _ _ (by omega), am_up_row _ _ _ _ (by omega), am_up_row _ _ _ _ (by omega)]) (by rw [am_up_row _ _ _ _ (by omega)])
            have hfin := atM_frL (t := σ.2.1.2 0) (u := (σ.2.1.1 - 1, fun i => σ.2.1.2 (i + 1))) hM (I' := (am_up (am_up (am_up (am_up (am_up I 191 19 (iZ ((σ.2.1.1 - 1 : Nat) : Int))) 191 0 (iZ ((pm σ.1 : Int) + 0))) 192 q (iZ (pa (σ.2.1.2 0) (q) : Int))) 193 q (iZ (pb (σ.2.1.2 0) (q) : Int))) 194 q (iZ (pw (σ.2.1.2 0) (q) : Int)))) (J' := (am_up J 195 q (lN (ps (σ.2.1.2 0) (q))))) (by simp [am_up]) (by simp [am_up]) (by simp [am_up]) (by simp [am_up]) (by simp [am_up]) (fun x hx => ⟨by rw [am_up_row _ _ _ _ (by omega), am_up_row _ _ _ _ (by omega), am_up_row _ _ _ _ (by omega), am_up_row _ _ _ _ (by omega), am_up_row _ _ _ _ (by omega)], by rw [am_up_row _ _ _ _ (by omega)]⟩) hQ' (hL.2.2.1 0 (by omega)) hL'
            exact ⟨rfl, _, _, rfl, hfin, fun x hx => ⟨by rw [am_up_row _ _ _ _ (by omega), am_up_row _ _ _ _ (by omega), am_up_row _ _ _ _ (by omega), am_up_row _ _ _ _ (by omega), am_up_row _ _ _ _ (by omega)], by rw [am_up_row _ _ _ _ (by omega)]⟩⟩
          · exact absurd c2 (by decide)
        · exact absurd c1 (by decide)
  · refine am_bipush (q := 9) (v := iZ (-3)) C dX11_undo_7 rfl rfl ?_
    refine am_iret C T dX11_undo_9 rfl (Nat.le_refl _) (Nat.le_refl _) ⟨_, rfl, ?_⟩
    rw [if_neg (by omega), if_neg (by omega)]
    exact ⟨rfl, _, _, rfl, hM, frM_refl⟩
theorem zS_1 (σ : SG) (a : Int32) : (zS σ a).1 = σ.1 := rfl
theorem atM_z {σ : SG} (h : atM I J σ) (z : Int32) : atM (am_up I 191 1 z) J (zS σ z) := by
  obtain ⟨h1, h2, h3, h4, h5, h6, h7, h8⟩ := h
  exact ⟨h1.on (am_up_ne _ _ _ _ (Or.inr (by decide))) (am_up_row _ _ _ _ (by decide)) (am_up_row _ _ _ _ (by decide)) (am_up_row _ _ _ _ (by decide)) rfl, h2, h3.on (am_up_ne _ _ _ _ (Or.inr (by decide))) (fun r g1 g2 => am_up_row _ _ _ _ (by omega)) rfl, am_up_eq _ _ _ _, (am_up_ne _ _ _ _ (Or.inr (by decide))).trans h5, fun e => (h6 e).on (am_up_ne _ _ _ _ (Or.inr (by decide))) (am_up_ne _ _ _ _ (Or.inr (by decide))) (am_up_row _ _ _ _ (by decide)) (am_up_row _ _ _ _ (by decide)) (am_up_row _ _ _ _ (by decide)) rfl, h7.on (am_up_ne _ _ _ _ (Or.inr (by decide))) (am_up_row _ _ _ _ (by decide)), fun i hi => (h8 i hi).on (am_up_row _ _ _ _ (by decide)) (am_up_row _ _ _ _ (by decide)) rfl⟩
set_option maxRecDepth 4000 in
theorem sp_X11_seed {σ : SG} (hM : atM I J σ) {v z : Int32} (hz : σ.2.2.2.1 = z) : am_S G mX11_seed 1 0 0 [.ref 191, .int v] (215, kK, kR, I, J) (am_qi (fun v0 w' => v0 = z ∧ ∃ (I' : Nat → Nat → Int32) (J' : Nat → Nat → Int64), w' = (215, kK, kR, I', J') ∧ atM I' J' (zS σ v) ∧ frM I J I' J')) := by
  refine am_spec (plainFor_of_name (by decide +kernel)) (Nat.le_of_ble_eq_true rfl) (L := [some (.ref 191), some (.int v), none]) rfl (fun X C T => ?_)
  refine am_aload_n (q := 1) C dX11_seed_0 rfl rfl ?_
  refine am_getIe (q := 4) (v := z) C fb_X11_9 dX11_seed_1 rfl rfl kk_191 (show 191 < 215 by decide) (hM.2.2.2.1.trans hz) ?_
  refine am_istore_n (q := 5) (L' := [some (.ref 191), some (.int v), some (.int z)]) C dX11_seed_4 rfl (by decide) rfl rfl ?_
  refine am_aload_n (q := 6) C dX11_seed_5 rfl rfl ?_
  refine am_iload_n (q := 7) C dX11_seed_6 rfl rfl ?_
  refine am_putI (q := 10) C fw_X11_9 dX11_seed_7 rfl rfl kk_191 (show 191 < 215 by decide) ?_
  refine am_iload_n (q := 11) C dX11_seed_10 rfl rfl ?_
  refine am_iret C T dX11_seed_11 rfl (Nat.le_refl _) (Nat.le_refl _) ⟨_, rfl, ?_⟩
  exact ⟨rfl, _, _, rfl, atM_z hM v, fun x hx => ⟨am_up_row _ _ _ _ (by omega), rfl⟩⟩
set_option maxRecDepth 4000 in
theorem sp_X11_drawn {σ : SG} (hM : atM I J σ) {z : Int32} (hz : σ.2.2.2.1 = z) : am_S G mX11_drawn 1 0 0 [.ref 191] (215, kK, kR, I, J) (am_qi (fun v w' => v = iZ ((drN z % 5 : Nat) : Int) ∧ ∃ (I' : Nat → Nat → Int32) (J' : Nat → Nat → Int64), w' = (215, kK, kR, I', J') ∧ atM I' J' (zS σ (drZ z)) ∧ frM I J I' J')) := by
  obtain ⟨K, hK0⟩ : ∃ K : Int32, (1103515245 : Int32) = K := ⟨_, rfl⟩
  have hd1 := drN_lt z
  refine am_spec (plainFor_of_name (by decide +kernel)) (Nat.le_of_ble_eq_true rfl) (L := [some (.ref 191)]) rfl (fun X C T => ?_)
  refine am_aload_n (q := 1) C dX11_drawn_0 rfl rfl ?_
  refine am_aload_n (q := 2) C dX11_drawn_1 rfl rfl ?_
  refine am_getIe (q := 5) (v := z) C fb_X11_9 dX11_drawn_2 rfl rfl kk_191 (show 191 < 215 by decide) (hM.2.2.2.1.trans hz) ?_
  refine am_ldcw (q := 8) C dX11_drawn_5 rfl ck_X11_321 ?_
  refine am_intE hK0 ?_
  refine am_imul (q := 9) C dX11_drawn_8 rfl ?_
  refine am_sipush (q := 12) (v := iZ 12345) C dX11_drawn_9 rfl rfl ?_
  refine am_iadd (q := 13) C dX11_drawn_12 rfl ?_
  refine am_putI (q := 16) C fw_X11_9 dX11_drawn_13 rfl rfl kk_191 (show 191 < 215 by decide) ?_
  refine am_aload_n (q := 17) C dX11_drawn_16 rfl rfl ?_
  refine am_getIe (q := 20) (v := (drZ z)) C fb_X11_9 dX11_drawn_17 rfl rfl kk_191 (show 191 < 215 by decide) ((am_up_eq _ _ _ _).trans (drZ_K hK0 z)) ?_
  refine am_bipush (q := 22) (v := iZ 16) C dX11_drawn_20 rfl rfl ?_
  refine am_iushr (q := 23) C dX11_drawn_22 rfl ?_
  refine am_intE (y := (iZ (drN z : Int))) (dr_16 _) ?_
  refine am_iconst (q := 24) (v := iZ 5) C dX11_drawn_23 rfl rfl ?_
  refine am_iremZ (q := 25) C dX11_drawn_24 rfl ⟨by omega, by omega⟩ ⟨by omega, by omega⟩ (by omega) (by omega) ?_
  refine am_intE (y := (iZ ((drN z % 5 : Nat) : Int))) (congrArg iZ rfl) ?_
  refine am_iret C T dX11_drawn_25 rfl (Nat.le_refl _) (Nat.le_refl _) ⟨_, rfl, ?_⟩
  rw [drZ_K hK0 z]
  exact ⟨rfl, _, _, rfl, atM_z hM _, fun x hx => ⟨am_up_row _ _ _ _ (by omega), rfl⟩⟩
set_option maxRecDepth 4000 in
theorem sp_X11_lot {σ : SG} (hM : atM I J σ) {n : Int} (hn : rg n) : am_S G mX11_lot 3 0 0 [.ref 191, .int (iZ n)] (215, kK, kR, I, J) (am_qi (fun v w' => v = iZ (lotA σ n) ∧ ∃ (I' : Nat → Nat → Int32) (J' : Nat → Nat → Int64), w' = (215, kK, kR, I', J') ∧ atM I' J' (lotT σ n) ∧ frM I J I' J')) := by
  have hQ := hM.1
  have hK := hM.2.1
  have hm := hM.2.1.1
  have hL := hM.2.2.1
  refine am_spec (plainFor_of_name (by decide +kernel)) (Nat.le_of_ble_eq_true rfl) (L := [some (.ref 191), some (.int (iZ n)), none, none, none, none]) rfl (fun X C T => ?_)
  refine am_iload_n (q := 1) C dX11_lot_0 rfl rfl ?_
  refine am_iconst (q := 2) (v := iZ 1) C dX11_lot_1 rfl rfl ?_
  refine am_bipush (q := 4) (v := iZ 6) C dX11_lot_2 rfl rfl ?_
  refine am_callS (q := 7) (As := [.int (iZ n), .int (iZ 1), .int (iZ 6)]) (rest := []) C mb_X11_in st_X11_in ml_X11_89 dX11_lot_4 rfl (sp_X11_in (v := n) (a := 1) (b := 6) hn ⟨by omega, by omega⟩ ⟨by omega, by omega⟩) rfl rfl ⟨by decide, by decide⟩ ⟨Nat.le_refl _, Nat.le_refl _⟩ (Nat.le_of_ble_eq_true rfl) (am_rie ?_)
  refine am_ifB_ne (q := 10) (tgt := 12) C dX11_lot_7 (by decide) rfl (fun c1 => ?_) (fun c1 => ?_)
  · refine am_iconst (q := 13) (v := iZ 0) C dX11_lot_12 rfl rfl ?_
    refine am_istore_n (q := 14) (L' := [some (.ref 191), some (.int (iZ n)), some (.int (iZ 0)), none, none, none]) C dX11_lot_13 rfl (by decide) rfl rfl ?_
    obtain ⟨c, hc⟩ : ∃ c : Nat, (c : Int) = min n (6 - (pm σ.1 : Int)) := ⟨(min n (6 - (pm σ.1 : Int))).toNat, by omega⟩
    have lp : ∀ (fuel : Nat) (k : Nat) (τ : SG) (I1 : Nat → Nat → Int32) (J1 : Nat → Nat → Int64), (k ≤ c) → (atM I1 J1 τ) → (frM I J I1 J1) → (pm τ.1 = pm σ.1 + k) → (itr lot1 (c - k) τ = itr lot1 c σ) → (c - k) < fuel → am_A G mX11_lot X (am_rm 3 0 0) 14 [some (.ref 191), some (.int (iZ n)), some (.int (iZ (k : Int))), none, none, none] [] (215, kK, kR, I1, J1) 0 0 := by
      intro fuel
      induction fuel with
      | zero => intro k τ I1 J1 hk hM1 hf1 hm1 hL0 hf; exact absurd hf (Nat.not_lt_zero _)
      | succ fuel ih =>
        intro k τ I1 J1 hk hM1 hf1 hm1 hL0 hf
        obtain ⟨z, hz⟩ : ∃ z, τ.2.2.2.1 = z := ⟨_, rfl⟩
        have hd1 := drN_lt z
        have hd2 := drN_lt (drZ z)
        refine am_iload_n (q := 15) C dX11_lot_14 rfl rfl ?_
        refine am_iload_n (q := 16) C dX11_lot_15 rfl rfl ?_
        refine am_icmpZ_ge (q := 19) (tgt := 70) C dX11_lot_16 (by decide) rfl ⟨by omega, by omega⟩ hn (fun q1 => ?_) (fun q1 => ?_)
        · refine am_iload_n (q := 71) C dX11_lot_70 rfl rfl ?_
          refine am_iret C T dX11_lot_71 rfl (Nat.le_refl _) (Nat.le_refl _) ⟨_, rfl, ?_⟩
          have e1 : lotA σ n = (k : Int) := by
            unfold lotA
            rw [if_pos (by omega)]; omega
          have e2 : lotT σ n = τ := by
            unfold lotT
            rw [if_pos (by omega), show (min n (6 - (pm σ.1 : Int))).toNat = c by omega, ← hL0, show c - k = 0 by omega, itr_0]
          rw [e1, e2]
          exact ⟨rfl, _, _, rfl, hM1, hf1⟩
        · refine am_aload_n (q := 20) C dX11_lot_19 rfl rfl ?_
          refine am_getIe (q := 23) (v := (iZ (pm τ.1 : Int))) C fb_X11_86 dX11_lot_20 rfl rfl kk_191 (show 191 < 215 by decide) hM1.1.1 ?_
          refine am_bipush (q := 25) (v := iZ 6) C dX11_lot_23 rfl rfl ?_
          refine am_icmpZ_ge (q := 28) (tgt := 70) C dX11_lot_25 (by decide) rfl ⟨by omega, by omega⟩ ⟨by omega, by omega⟩ (fun q2 => ?_) (fun q2 => ?_)
          · refine am_iload_n (q := 71) C dX11_lot_70 rfl rfl ?_
            refine am_iret C T dX11_lot_71 rfl (Nat.le_refl _) (Nat.le_refl _) ⟨_, rfl, ?_⟩
            have e1 : lotA σ n = (k : Int) := by
              unfold lotA
              rw [if_pos (by omega)]; omega
            have e2 : lotT σ n = τ := by
              unfold lotT
              rw [if_pos (by omega), show (min n (6 - (pm σ.1 : Int))).toNat = c by omega, ← hL0, show c - k = 0 by omega, itr_0]
            rw [e1, e2]
            exact ⟨rfl, _, _, rfl, hM1, hf1⟩
          · refine am_aload_n (q := 29) C dX11_lot_28 rfl rfl ?_
            refine am_callV (q := 32) (As := []) (rest := []) C mb_X11_drawn im_X11_drawn se_X11_drawn ml_X11_322 cb_11 kk_191 (show 191 < 215 by decide) dX11_lot_29 rfl (sp_X11_drawn hM1 hz) rfl rfl ⟨by decide, by decide⟩ ⟨Nat.le_refl _, Nat.le_refl _⟩ (Nat.le_of_ble_eq_true rfl) (am_ri (fun v' w' hw' => ?_))
            obtain ⟨rfl, I2, J2, rfl, hM2, hf2⟩ := hw'
            refine am_istore_n (q := 33) (L' := [some (.ref 191), some (.int (iZ n)), some (.int (iZ (k : Int))), some (.int (iZ ((drN z % 5 : Nat) : Int))), none, none]) C dX11_lot_32 rfl (by decide) rfl rfl ?_
            refine am_aload_n (q := 34) C dX11_lot_33 rfl rfl ?_
            refine am_callV (q := 37) (As := []) (rest := []) C mb_X11_drawn im_X11_drawn se_X11_drawn ml_X11_322 cb_11 kk_191 (show 191 < 215 by decide) dX11_lot_34 rfl (sp_X11_drawn hM2 (z := drZ z) (zS_z _ _)) rfl rfl ⟨by decide, by decide⟩ ⟨Nat.le_refl _, Nat.le_refl _⟩ (Nat.le_of_ble_eq_true rfl) (am_ri (fun v' w' hw' => ?_))
            obtain ⟨rfl, I3, J3, rfl, hM3, hf3⟩ := hw'
            rw [zS_zS] at hM3
            refine am_istore (q := 39) (L' := [some (.ref 191), some (.int (iZ n)), some (.int (iZ (k : Int))), some (.int (iZ ((drN z % 5 : Nat) : Int))), some (.int (iZ ((drN (drZ z) % 5 : Nat) : Int))), none]) C dX11_lot_37 rfl (by decide) rfl rfl ?_
            refine am_iload_n (q := 40) C dX11_lot_39 rfl rfl ?_
            refine am_iload (q := 42) C dX11_lot_40 rfl rfl ?_
            refine am_iaddZ (q := 43) C dX11_lot_42 rfl ?_
            refine am_ifZ_ne (q := 46) (tgt := 55) C dX11_lot_43 (by decide) rfl ⟨by omega, by omega⟩ (fun q3 => ?_) (fun q3 => ?_)
            · refine am_aload_n (q := 56) C dX11_lot_55 rfl rfl ?_
              refine am_iload_n (q := 57) C dX11_lot_56 rfl rfl ?_
              refine am_iload (q := 59) C dX11_lot_57 rfl rfl ?_
              refine am_callV (q := 62) (As := [.int (iZ ((drN z % 5 : Nat) : Int)), .int (iZ ((drN (drZ z) % 5 : Nat) : Int))]) (rest := []) C mb_X11_comes im_X11_comes se_X11_comes ml_X11_101 cb_11 kk_191 (show 191 < 215 by decide) dX11_lot_59 rfl (sp_comesM hM3 (a := drN z % 5) (b := drN (drZ z) % 5) (by omega) (by omega) (by omega) (by rw [zS_1]; omega)) rfl rfl ⟨by decide, by decide⟩ ⟨Nat.le_refl _, Nat.le_refl _⟩ (Nat.le_of_ble_eq_true rfl) (am_ri (fun v' w' hw' => ?_))
              obtain ⟨rfl, I4, J4, rfl, hM4, hf4⟩ := hw'
              have hL1 : lot1 τ = comesS (zS τ (drZ (drZ z))) (drN z % 5) (drN (drZ z) % 5) := by unfold lot1; rw [hz]; exact if_neg (by omega)
              rw [← hL1] at hM4
              refine am_istore (q := 64) (L' := [some (.ref 191), some (.int (iZ n)), some (.int (iZ (k : Int))), some (.int (iZ ((drN z % 5 : Nat) : Int))), some (.int (iZ ((drN (drZ z) % 5 : Nat) : Int))), some (.int (iZ (comesA (zS τ (drZ (drZ z))))))]) C dX11_lot_62 rfl (by decide) rfl rfl ?_
              refine am_iincZ (q := 67) (L' := [some (.ref 191), some (.int (iZ n)), some (.int (iZ ((k + 1 : Nat) : Int))), some (.int (iZ ((drN z % 5 : Nat) : Int))), some (.int (iZ ((drN (drZ z) % 5 : Nat) : Int))), some (.int (iZ (comesA (zS τ (drZ (drZ z))))))]) C dX11_lot_64 rfl rfl (by omega) (by decide) rfl rfl ?_
              refine am_goto (q := 14) C dX11_lot_67 (by decide) ?_
              refine am_wkA (L1 := [some (.ref 191), some (.int (iZ n)), some (.int (iZ ((k + 1 : Nat) : Int))), none, none, none]) ⟨rfl, ⟨rfl, ⟨rfl, trivial⟩⟩⟩ ?_
              exact ih (k + 1) (lot1 τ) I4 J4 (by omega) hM4 (frM_tr hf1 (frM_tr hf2 (frM_tr hf3 hf4))) ((pm_lot1 (by omega)).trans (by omega)) (by rw [← hL0, show c - k = (c - (k + 1)) + 1 by omega, itr_1]) (by omega)
            · refine am_aload_n (q := 47) C dX11_lot_46 rfl rfl ?_
              refine am_iconst (q := 48) (v := iZ 1) C dX11_lot_47 rfl rfl ?_
              refine am_iconst (q := 49) (v := iZ 1) C dX11_lot_48 rfl rfl ?_
              refine am_callV (q := 52) (As := [.int (iZ (1 : Int)), .int (iZ (1 : Int))]) (rest := []) C mb_X11_comes im_X11_comes se_X11_comes ml_X11_101 cb_11 kk_191 (show 191 < 215 by decide) dX11_lot_49 rfl (sp_comesM hM3 (a := 1) (b := 1) (by omega) (by omega) (by omega) (by rw [zS_1]; omega)) rfl rfl ⟨by decide, by decide⟩ ⟨Nat.le_refl _, Nat.le_refl _⟩ (Nat.le_of_ble_eq_true rfl) (am_ri (fun v' w' hw' => ?_))
              obtain ⟨rfl, I4, J4, rfl, hM4, hf4⟩ := hw'
              have hL1 : lot1 τ = comesS (zS τ (drZ (drZ z))) (1) (1) := by unfold lot1; rw [hz]; exact if_pos ⟨by omega, by omega⟩
              rw [← hL1] at hM4
              refine am_goto (q := 62) C dX11_lot_52 (by decide) ?_
              refine am_istore (q := 64) (L' := [some (.ref 191), some (.int (iZ n)), some (.int (iZ (k : Int))), some (.int (iZ ((drN z % 5 : Nat) : Int))), some (.int (iZ ((drN (drZ z) % 5 : Nat) : Int))), some (.int (iZ (comesA (zS τ (drZ (drZ z))))))]) C dX11_lot_62 rfl (by decide) rfl rfl ?_
              refine am_iincZ (q := 67) (L' := [some (.ref 191), some (.int (iZ n)), some (.int (iZ ((k + 1 : Nat) : Int))), some (.int (iZ ((drN z % 5 : Nat) : Int))), some (.int (iZ ((drN (drZ z) % 5 : Nat) : Int))), some (.int (iZ (comesA (zS τ (drZ (drZ z))))))]) C dX11_lot_64 rfl rfl (by omega) (by decide) rfl rfl ?_
              refine am_goto (q := 14) C dX11_lot_67 (by decide) ?_
              refine am_wkA (L1 := [some (.ref 191), some (.int (iZ n)), some (.int (iZ ((k + 1 : Nat) : Int))), none, none, none]) ⟨rfl, ⟨rfl, ⟨rfl, trivial⟩⟩⟩ ?_
              exact ih (k + 1) (lot1 τ) I4 J4 (by omega) hM4 (frM_tr hf1 (frM_tr hf2 (frM_tr hf3 hf4))) ((pm_lot1 (by omega)).trans (by omega)) (by rw [← hL0, show c - k = (c - (k + 1)) + 1 by omega, itr_1]) (by omega)
    exact lp (c + 1) 0 σ I J (by omega) hM frM_refl (by omega) rfl (by omega)
  · refine am_iconst (q := 11) (v := iZ (-1)) C dX11_lot_10 rfl rfl ?_
    refine am_iret C T dX11_lot_11 rfl (Nat.le_refl _) (Nat.le_refl _) ⟨_, rfl, ?_⟩
    have e1 : lotA σ n = (-1) := by
      unfold lotA
      try simp only [Int.toNat_natCast]
      first | (rw [if_neg (by omega)]; done)
    have e2 : lotT σ n = σ := by
      unfold lotT
      try simp only [Int.toNat_natCast]
      first | (rw [if_neg (by omega)]; done)
    rw [e1, e2]
    exact ⟨rfl, _, _, rfl, hM, frM_refl⟩
