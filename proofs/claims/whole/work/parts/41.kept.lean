variable {G : am_G} {I : Nat → Nat → Int32} {J : Nat → Nat → Int64}
/-- another weight: rays, period, counts stay -/
theorem raysP_w (m : Nat) (a b w w' s : Nat → Nat) : ∀ k, raysP (m, a, b, w', s) k = raysP (m, a, b, w, s) k
  | 0 => rfl
  | k + 1 => by
    show insR (raysP (m, a, b, w', s) k) (a k) (b k) = insR (raysP (m, a, b, w, s) k) (a k) (b k)
    rw [raysP_w m a b w w' s k]
theorem memP_w (m : Nat) (a b w w' s : Nat → Nat) (l : List (Nat × Nat)) (r : Nat) : ∀ k, memP (m, a, b, w', s) l r k = memP (m, a, b, w, s) l r k
  | 0 => rfl
  | k + 1 => by
    show memP (m, a, b, w', s) l r k + (if fidx l (a k) (b k) = r then 1 else 0) = memP (m, a, b, w, s) l r k + (if fidx l (a k) (b k) = r then 1 else 0)
    rw [memP_w m a b w w' s l r k]
theorem perQ_w (m : Nat) (a b w w' s : Nat → Nat) (p x : Nat) : ∀ q, perQ (m, a, b, w', s) p x q = perQ (m, a, b, w, s) p x q
  | 0 => rfl
  | q + 1 => by
    show lcm0 (perQ (m, a, b, w', s) p x q) (detN (m, a, b, w', s) p q) = lcm0 (perQ (m, a, b, w, s) p x q) (detN (m, a, b, w, s) p q)
    rw [perQ_w m a b w w' s p x q]; rfl
theorem perP_w (m : Nat) (a b w w' s : Nat → Nat) : ∀ p, perP (m, a, b, w', s) p = perP (m, a, b, w, s) p
  | 0 => rfl
  | p + 1 => by
    show perQ (m, a, b, w', s) p (perP (m, a, b, w', s) p) p = perQ (m, a, b, w, s) p (perP (m, a, b, w, s) p) p
    rw [perP_w m a b w w' s p, perQ_w m a b w w' s p _ p]
theorem Fr_w (m : Nat) (a b w w' s : Nat → Nat) : ∀ k, Fr (m, a, b, w', s) k = Fr (m, a, b, w, s) k
  | 0 => rfl
  | k + 1 => by
    show geoF (Fr (m, a, b, w', s) k) (a k) (b k) = geoF (Fr (m, a, b, w, s) k) (a k) (b k)
    rw [Fr_w m a b w w' s k]
theorem Wy_w (m : Nat) (a b w w' s : Nat → Nat) : ∀ k, Wy (m, a, b, w', s) k = Wy (m, a, b, w, s) k
  | 0 => rfl
  | k + 1 => by
    show wsm (Wy (m, a, b, w', s) k) (s (m - (k + 1))) (a (m - (k + 1))) (b (m - (k + 1))) 61 0 = wsm (Wy (m, a, b, w, s) k) (s (m - (k + 1))) (a (m - (k + 1))) (b (m - (k + 1))) 61 0
    rw [Wy_w m a b w w' s k]
theorem atV_w {m : Nat} {a b w s : Nat → Nat} (w' : Nat → Nat) (h : atV I J (m, a, b, w, s)) : atV I J (m, a, b, w', s) := by
  obtain ⟨⟨h1, h2, h3, h4⟩, ⟨kx, ky, h5, h6⟩, ⟨lx, ly, h7, h8⟩⟩ := h
  have e : raysA (m, a, b, w', s) = raysA (m, a, b, w, s) := raysP_w m a b w w' s m
  refine ⟨⟨?_, fun r hr => ?_, fun p hp => ?_, ?_⟩, ⟨kx, ky, h5, fun x y hx hy => ?_⟩, ⟨lx, ly, h7, fun l x y g1 g2 hx hy => ?_⟩⟩
  · rw [e]; exact h1
  · rw [e, memP_w m a b w w' s]; exact h2 r hr
  · rw [e]; exact h3 p hp
  · rw [perP_w m a b w w' s]; exact h4
  · rw [Fr_w m a b w w' s]; exact h6 x y hx hy
  · rw [Wy_w m a b w w' s]; exact h8 l x y g1 g2 hx hy
def setw (t : PT) (p v : Nat) : PT := (t.1, t.2.1, t.2.2.1, fun q => if q = p then v else t.2.2.2.1 q, t.2.2.2.2)
theorem atV_setw {t : PT} (p v : Nat) (h : atV I J t) : atV I J (setw t p v) := atV_w _ h
theorem okP_setw {t : PT} (h : okP t) {p v : Nat} (hv : 1 ≤ v ∧ v ≤ 99) : okP (setw t p v) := by
  refine ⟨h.1, fun q hq => ?_⟩
  obtain ⟨h1, h2, h3, h4, h5, h6⟩ := h.2 q hq
  refine ⟨h1, h2, h3, ?_, ?_, h6⟩
  · show 1 ≤ if q = p then v else pw t q
    split <;> omega
  · show (if q = p then v else pw t q) ≤ 99
    split <;> omega
theorem atP_setw {t : PT} (h : atP 1 I J t) (p v : Nat) : atP 1 (am_up I 4 p (iZ (v : Int))) J (setw t p v) := by
  refine ⟨by rw [am_up_row _ _ _ _ (by decide)]; exact h.1, fun q hq => ?_⟩
  obtain ⟨h1, h2, h3, h4⟩ := h.2 q hq
  refine ⟨by rw [am_up_row _ _ _ _ (by decide)]; exact h1, by rw [am_up_row _ _ _ _ (by decide)]; exact h2, ?_, h4⟩
  show am_up I 4 p _ 4 q = iZ (((if q = p then v else pw t q : Nat)) : Int)
  by_cases e : q = p
  · rw [if_pos e, e, am_up_eq]
  · rw [if_neg e, am_up_ne _ _ _ _ (Or.inr e)]; exact h3
set_option maxRecDepth 4000 in
theorem sp_X10_weigh {σ : SG} (hC : atC I J σ) {p v : Int} (hp : rg p) (hv : rg v) : am_S G mX10_weigh 4 0 0 [.ref 0, .int (iZ p), .int (iZ v)] (215, kK, kR, I, J) (am_qi (fun v0 w' => v0 = iZ (if (0 ≤ p ∧ p < pm σ.1) ∧ 1 ≤ v ∧ v ≤ 99 then (pw σ.1 p.toNat : Int) else -1) ∧ ∃ (I' : Nat → Nat → Int32) (J' : Nat → Nat → Int64), w' = (215, kK, kR, I', J') ∧ atC I' J' (if (0 ≤ p ∧ p < pm σ.1) ∧ 1 ≤ v ∧ v ≤ 99 then (setw σ.1 p.toNat v.toNat, pushU σ.1 σ.2.1, σ.2.2) else σ) ∧ frC I J I' J')) := by
  obtain ⟨n0, hU⟩ := hC.2.2.2.1
  have hm := hC.2.1.1
  refine am_spec (plainFor_of_name (by decide +kernel)) (Nat.le_of_ble_eq_true rfl) (L := [some (.ref 0), some (.int (iZ p)), some (.int (iZ v)), none]) rfl (fun X C T => ?_)
  refine am_aload_n (q := 1) C dX10_weigh_0 rfl rfl ?_
  refine am_getR (q := 4) C fb_X10_14 dX10_weigh_1 rfl rfl kk_0 (show 0 < 215 by decide) kr_0_0 ?_
  refine am_iload_n (q := 5) C dX10_weigh_4 rfl rfl ?_
  refine am_callN (q := 8) (As := [.int (iZ p)]) (rest := []) C mb_X5_has im_X5_has se_X5_has mn_X10_113 cb_5 kk_1 (show 1 < 215 by decide) dX10_weigh_5 rfl (sp_X5_has isP_1 hC.1 hC.2.1 hp) rfl rfl ⟨by decide, by decide⟩ ⟨Nat.le_refl _, Nat.le_refl _⟩ (Nat.le_of_ble_eq_true rfl) (am_rie ?_)
  refine am_ifB_eq (q := 11) (tgt := 22) C dX10_weigh_8 (by decide) rfl (fun c1 => ?_) (fun c1 => ?_)
  · refine am_iconst (q := 23) (v := iZ (-1)) C dX10_weigh_22 rfl rfl ?_
    refine am_iret C T dX10_weigh_23 rfl (Nat.le_refl _) (Nat.le_refl _) ⟨_, rfl, ?_⟩
    rw [if_neg (by omega), if_neg (by omega)]
    exact ⟨rfl, _, _, rfl, hC, frC_refl⟩
  · refine am_iload_n (q := 12) C dX10_weigh_11 rfl rfl ?_
    refine am_iconst (q := 13) (v := iZ 1) C dX10_weigh_12 rfl rfl ?_
    refine am_icmpZ_lt (q := 16) (tgt := 22) C dX10_weigh_13 (by decide) rfl hv ⟨by omega, by omega⟩ (fun c2 => ?_) (fun c2 => ?_)
    · refine am_iconst (q := 23) (v := iZ (-1)) C dX10_weigh_22 rfl rfl ?_
      refine am_iret C T dX10_weigh_23 rfl (Nat.le_refl _) (Nat.le_refl _) ⟨_, rfl, ?_⟩
      rw [if_neg (by omega), if_neg (by omega)]
      exact ⟨rfl, _, _, rfl, hC, frC_refl⟩
    · refine am_iload_n (q := 17) C dX10_weigh_16 rfl rfl ?_
      refine am_bipush (q := 19) (v := iZ 99) C dX10_weigh_17 rfl rfl ?_
      refine am_icmpZ_le (q := 22) (tgt := 24) C dX10_weigh_19 (by decide) rfl hv ⟨by omega, by omega⟩ (fun c3 => ?_) (fun c3 => ?_)
      · refine am_aload_n (q := 25) C dX10_weigh_24 rfl rfl ?_
        refine am_getR (q := 28) C fb_X10_24 dX10_weigh_25 rfl rfl kk_0 (show 0 < 215 by decide) kr_0_2 ?_
        refine am_aload_n (q := 29) C dX10_weigh_28 rfl rfl ?_
        refine am_getR (q := 32) C fb_X10_14 dX10_weigh_29 rfl rfl kk_0 (show 0 < 215 by decide) kr_0_0 ?_
        refine am_callN (q := 35) (As := [.ref 1]) (rest := []) C mb_X0_remember im_X0_remember se_X0_remember mn_X10_106 cb_0 kk_11 (show 11 < 215 by decide) dX10_weigh_32 rfl (sp_X0_remember hU hC.1 hC.2.1) rfl rfl ⟨by decide, by decide⟩ ⟨Nat.le_refl _, Nat.le_refl _⟩ (Nat.le_of_ble_eq_true rfl) (am_rv (fun w' hw' => ?_))
        obtain ⟨I1, J1, rfl, hU1, hf1⟩ := hw'
        have hA1 : atP 1 I1 J1 σ.1 := hC.1.on (fun x _ h => (hf1 x (by omega)).1) (hf1 5 (by omega)).2
        refine am_aload_n (q := 36) C dX10_weigh_35 rfl rfl ?_
        refine am_getR (q := 39) C fb_X10_14 dX10_weigh_36 rfl rfl kk_0 (show 0 < 215 by decide) kr_0_0 ?_
        refine am_getR (q := 42) C fb_X10_117 dX10_weigh_39 rfl rfl kk_1 (show 1 < 215 by decide) kr_1_2 ?_
        refine am_iload_n (q := 43) C dX10_weigh_42 rfl rfl ?_
        refine am_ialoadZ (q := 44) p.toNat C dX10_weigh_43 rfl kk_4 (show 4 < 215 by decide) (by omega) (by omega) (by decide) ?_
        refine am_intE (y := (iZ (pw σ.1 p.toNat : Int))) (hA1.2 p.toNat (by omega)).2.2.1 ?_
        refine am_istore_n (q := 45) (L' := [some (.ref 0), some (.int (iZ p)), some (.int (iZ v)), some (.int (iZ (pw σ.1 p.toNat : Int)))]) C dX10_weigh_44 rfl (by decide) rfl rfl ?_
        refine am_aload_n (q := 46) C dX10_weigh_45 rfl rfl ?_
        refine am_getR (q := 49) C fb_X10_14 dX10_weigh_46 rfl rfl kk_0 (show 0 < 215 by decide) kr_0_0 ?_
        refine am_getR (q := 52) C fb_X10_117 dX10_weigh_49 rfl rfl kk_1 (show 1 < 215 by decide) kr_1_2 ?_
        refine am_iload_n (q := 53) C dX10_weigh_52 rfl rfl ?_
        refine am_iload_n (q := 54) C dX10_weigh_53 rfl rfl ?_
        refine am_iastoreZ (q := 55) p.toNat C dX10_weigh_54 rfl kk_4 (show 4 < 215 by decide) (by omega) (by omega) (by decide) ?_
        refine am_iload_n (q := 56) C dX10_weigh_55 rfl rfl ?_
        refine am_iret C T dX10_weigh_56 rfl (Nat.le_refl _) (Nat.le_refl _) ⟨_, rfl, ?_⟩
        rw [if_pos (by omega), if_pos (by omega)]
        obtain ⟨v1, rfl⟩ : ∃ q : Nat, v = q := ⟨v.toNat, by omega⟩
        rw [Int.toNat_natCast]
        refine ⟨rfl, _, _, rfl, ⟨atP_setw hA1 _ _, okP_setw hC.2.1 (by omega), atV_setw _ _ (hC.2.2.1.on (fun x h1 h2 => ⟨?_, ?_⟩)), ⟨_, hU1.on (fun x h1 h2 => ⟨am_up_row _ _ _ _ (by omega), rfl⟩)⟩, hC.2.2.2.2.on (fun x hx => ⟨?_, ?_⟩)⟩, fun x hx => ⟨?_, ?_⟩⟩
        · rw [am_up_row _ _ _ _ (by omega), (hf1 x (by omega)).1]
        · rw [(hf1 x (by omega)).2]
        · rw [am_up_row _ _ _ _ (by omega), (hf1 x (by omega)).1]
        · rw [(hf1 x (by omega)).2]
        · rw [am_up_row _ _ _ _ (by omega), (hf1 x (by omega)).1]
        · rw [(hf1 x (by omega)).2]
      · refine am_iconst (q := 23) (v := iZ (-1)) C dX10_weigh_22 rfl rfl ?_
        refine am_iret C T dX10_weigh_23 rfl (Nat.le_refl _) (Nat.le_refl _) ⟨_, rfl, ?_⟩
        rw [if_neg (by omega), if_neg (by omega)]
        exact ⟨rfl, _, _, rfl, hC, frC_refl⟩
set_option maxRecDepth 4000 in
theorem sp_X10_keep {σ : SG} (hC : atC I J σ) : am_S G mX10_keep 3 0 0 [.ref 0] (215, kK, kR, I, J) (am_qi (fun v w' => v = iZ 1 ∧ ∃ (I' : Nat → Nat → Int32) (J' : Nat → Nat → Int64), w' = (215, kK, kR, I', J') ∧ atC I' J' (σ.1, σ.2.1, ((σ.1, true, σ.2.2.2.1), σ.2.2.2.1, σ.2.2.2.2)) ∧ frC I J I' J')) := by
  obtain ⟨n0, hU⟩ := hC.2.2.2.1
  have hm := hC.2.1.1
  refine am_spec (plainFor_of_name (by decide +kernel)) (Nat.le_of_ble_eq_true rfl) (L := [some (.ref 0)]) rfl (fun X C T => ?_)
  refine am_aload_n (q := 1) C dX10_keep_0 rfl rfl ?_
  refine am_getR (q := 4) C fb_X10_18 dX10_keep_1 rfl rfl kk_0 (show 0 < 215 by decide) kr_0_1 ?_
  refine am_aload_n (q := 5) C dX10_keep_4 rfl rfl ?_
  refine am_getR (q := 8) C fb_X10_14 dX10_keep_5 rfl rfl kk_0 (show 0 < 215 by decide) kr_0_0 ?_
  refine am_callN (q := 11) (As := [.ref 1]) (rest := []) C mb_X5_become im_X5_become se_X5_become mn_X10_313 cb_5 kk_6 (show 6 < 215 by decide) dX10_keep_8 rfl (sp_X5_become (h := 6) (g := 1) isP_6 isP_1 (by omega) hC.1 hC.2.1) rfl rfl ⟨by decide, by decide⟩ ⟨Nat.le_refl _, Nat.le_refl _⟩ (Nat.le_of_ble_eq_true rfl) (am_rv (fun w' hw' => ?_))
  obtain ⟨I1, J1, rfl, hA1, hf1⟩ := hw'
  refine am_aload_n (q := 12) C dX10_keep_11 rfl rfl ?_
  refine am_aload_n (q := 13) C dX10_keep_12 rfl rfl ?_
  refine am_getIe (q := 16) (v := σ.2.2.2.1) C fb_X10_91 dX10_keep_13 rfl rfl kk_0 (show 0 < 215 by decide) ((congrFun (hf1 0 (by omega)).1 13).trans hC.2.2.2.2.2.2.1) ?_
  refine am_putI (q := 19) C fw_X10_87 dX10_keep_16 rfl rfl kk_0 (show 0 < 215 by decide) ?_
  refine am_aload_n (q := 20) C dX10_keep_19 rfl rfl ?_
  refine am_iconst (q := 21) (v := iZ 1) C dX10_keep_20 rfl rfl ?_
  refine am_putZ (q := 24) C fw_X10_83 dX10_keep_21 rfl rfl (Or.inr rfl) kk_0 (show 0 < 215 by decide) ?_
  refine am_iconst (q := 25) (v := iZ 1) C dX10_keep_24 rfl rfl ?_
  refine am_iret C T dX10_keep_25 rfl (Nat.le_refl _) (Nat.le_refl _) ⟨_, rfl, ?_⟩
  obtain ⟨x1, x2, x3, x4, x5, ⟨r, x6⟩, x7⟩ := hC.2.2.2.2
  refine ⟨rfl, _, _, rfl, atC_0 hC (fun x h1 h2 h3 h4 h5 => ⟨?_, (hf1 x (by omega)).2⟩) ⟨?_, ?_, ?_, fun _ => ⟨hA1.on (fun x h1 h2 => ?_) rfl, hC.2.1⟩, x5.on ?_ ?_, ⟨r, x6.on ?_ ?_ (hf1 166 (by omega)).2 (hf1 167 (by omega)).2⟩, fun i hi => (x7 i hi).on ?_ (hf1 (184 + 2 * i) (by omega)).2⟩, fun x hx => ⟨?_, (hf1 x (by omega)).2⟩⟩
  · rw [am_up_row _ _ _ _ (by omega), am_up_row _ _ _ _ (by omega), (hf1 x (by omega)).1]
  · rw [am_up_eq]; rfl
  · rw [am_up_ne _ _ _ _ (Or.inr (by decide)), am_up_eq]
  · rw [am_up_ne _ _ _ _ (Or.inr (by decide)), am_up_ne _ _ _ _ (Or.inr (by decide)), (hf1 0 (by omega)).1]; exact x3
  · rw [am_up_row _ _ _ _ (by omega), am_up_row _ _ _ _ (by omega)]
  · rw [am_up_row _ _ _ _ (by omega), am_up_row _ _ _ _ (by omega), (hf1 _ (by omega)).1]
  · rw [am_up_row _ _ _ _ (by omega), am_up_row _ _ _ _ (by omega), (hf1 _ (by omega)).1]
  · rw [am_up_row _ _ _ _ (by omega), am_up_row _ _ _ _ (by omega), (hf1 _ (by omega)).1]
  · rw [am_up_row _ _ _ _ (by omega), am_up_row _ _ _ _ (by omega), (hf1 _ (by omega)).1]
  · rw [am_up_row _ _ _ _ (by omega), am_up_row _ _ _ _ (by omega), (hf1 _ (by omega)).1]
  · rw [am_up_row _ _ _ _ (by omega), am_up_row _ _ _ _ (by omega), (hf1 _ (by omega)).1]
set_option maxRecDepth 4000 in
theorem sp_X10_again {σ : SG} (hC : atC I J σ) : am_S G mX10_again 6 0 0 [.ref 0] (215, kK, kR, I, J) (am_qi (fun v w' => v = iZ (if σ.2.2.1.2.1 = true then (pm σ.2.2.1.1 : Int) else -3) ∧ ∃ (I' : Nat → Nat → Int32) (J' : Nat → Nat → Int64), w' = (215, kK, kR, I', J') ∧ atC I' J' (if σ.2.2.1.2.1 = true then (σ.2.2.1.1, (0, σ.2.1.2), (σ.2.2.1, σ.2.2.1.2.2, σ.2.2.2.2)) else σ) ∧ frC I J I' J')) := by
  obtain ⟨n0, hU⟩ := hC.2.2.2.1
  have hm := hC.2.1.1
  have hX := hC.2.2.2.2
  refine am_spec (plainFor_of_name (by decide +kernel)) (Nat.le_of_ble_eq_true rfl) (L := [some (.ref 0)]) rfl (fun X C T => ?_)
  refine am_aload_n (q := 1) C dX10_again_0 rfl rfl ?_
  refine am_getIe (q := 4) (v := (if σ.2.2.1.2.1 = true then 1 else 0)) C fb_X10_83 dX10_again_1 rfl rfl kk_0 (show 0 < 215 by decide) hX.1 ?_
  refine am_ifB_ne (q := 7) (tgt := 10) C dX10_again_4 (by decide) rfl (fun c1 => ?_) (fun c1 => ?_)
  · refine am_aload_n (q := 11) C dX10_again_10 rfl rfl ?_
    refine am_getR (q := 14) C fb_X10_14 dX10_again_11 rfl rfl kk_0 (show 0 < 215 by decide) kr_0_0 ?_
    refine am_aload_n (q := 15) C dX10_again_14 rfl rfl ?_
    refine am_getR (q := 18) C fb_X10_18 dX10_again_15 rfl rfl kk_0 (show 0 < 215 by decide) kr_0_1 ?_
    have hK6 := (hX.2.2.2.1 (by assumption)).2
    refine am_callN (q := 21) (As := [.ref 6]) (rest := []) C mb_X5_become im_X5_become se_X5_become mn_X10_313 cb_5 kk_1 (show 1 < 215 by decide) dX10_again_18 rfl (sp_X5_become (h := 1) (g := 6) isP_1 isP_6 (by omega) (hX.2.2.2.1 (by assumption)).1 hK6) rfl rfl ⟨by decide, by decide⟩ ⟨Nat.le_refl _, Nat.le_refl _⟩ (Nat.le_of_ble_eq_true rfl) (am_rv (fun w' hw' => ?_))
    obtain ⟨I1, J1, rfl, hA1, hf1⟩ := hw'
    refine am_aload_n (q := 22) C dX10_again_21 rfl rfl ?_
    refine am_aload_n (q := 23) C dX10_again_22 rfl rfl ?_
    refine am_getIe (q := 26) (v := σ.2.2.1.2.2) C fb_X10_87 dX10_again_23 rfl rfl kk_0 (show 0 < 215 by decide) ((congrFun (hf1 0 (by omega)).1 12).trans hX.2.1) ?_
    refine am_putI (q := 29) C fw_X10_91 dX10_again_26 rfl rfl kk_0 (show 0 < 215 by decide) ?_
    refine am_aload_n (q := 30) C dX10_again_29 rfl rfl ?_
    refine am_getR (q := 33) C fb_X10_24 dX10_again_30 rfl rfl kk_0 (show 0 < 215 by decide) kr_0_2 ?_
    refine am_callN (q := 36) (As := []) (rest := []) C mb_X0_forget im_X0_forget se_X0_forget mn_X10_315 cb_0 kk_11 (show 11 < 215 by decide) dX10_again_33 rfl sp_X0_forget rfl rfl ⟨by decide, by decide⟩ ⟨Nat.le_refl _, Nat.le_refl _⟩ (Nat.le_of_ble_eq_true rfl) (am_rve ?_)
    refine am_aload_n (q := 37) C dX10_again_36 rfl rfl ?_
    refine am_callV (q := 40) (As := []) (rest := []) C mb_X10_partsChanged im_X10_partsChanged se_X10_partsChanged ml_X10_110 cb_10 kk_0 (show 0 < 215 by decide) dX10_again_37 rfl (sp_X10_partsChanged (hA1.on (fun x h1 h2 => by rw [am_up_row _ _ _ _ (by omega), am_up_row _ _ _ _ (by omega)]) rfl) hK6) rfl rfl ⟨by decide, by decide⟩ ⟨Nat.le_refl _, Nat.le_refl _⟩ (Nat.le_of_ble_eq_true rfl) (am_rv (fun w' hw' => ?_))
    obtain ⟨I3, rfl, hV3, hf3⟩ := hw'
    have hrow : ∀ x, x ≠ 0 → x ≠ 11 → (x < 169 ∨ 177 < x) → I3 x = I1 x := fun x h1 h2 h4 => by rw [hf3 x h4, am_up_row _ _ _ _ h2, am_up_row _ _ _ _ h1]
    have hA4 : atP 1 I3 J1 σ.2.2.1.1 := hA1.on (fun x h1 h2 => hrow x (by omega) (by omega) (by omega)) rfl
    refine am_aload_n (q := 41) C dX10_again_40 rfl rfl ?_
    refine am_getR (q := 44) C fb_X10_14 dX10_again_41 rfl rfl kk_0 (show 0 < 215 by decide) kr_0_0 ?_
    refine am_getIe (q := 47) (v := (iZ (pm σ.2.2.1.1 : Int))) C fb_X10_103 dX10_again_44 rfl rfl kk_1 (show 1 < 215 by decide) hA4.1 ?_
    refine am_iret C T dX10_again_47 rfl (Nat.le_refl _) (Nat.le_refl _) ⟨_, rfl, ?_⟩
    rw [if_pos (by assumption), if_pos (by assumption)]
    obtain ⟨x1, x2, x3, x4, x5, ⟨r, x6⟩, x7⟩ := hX
    obtain ⟨u1, u2, u3, u4, u5⟩ := hU
    refine ⟨rfl, _, _, rfl, ⟨hA4, hK6, hV3, ⟨n0, ?_, u2, ?_, Nat.zero_le _, fun i hi => absurd hi (Nat.not_lt_zero _)⟩, ?_, ?_, ?_, fun e => ⟨(x4 e).1.on (fun x h1 h2 => ?_) (hf1 10 (by omega)).2, (x4 e).2⟩, x5.on ?_ ?_, ⟨r, x6.on ?_ ?_ (hf1 166 (by omega)).2 (hf1 167 (by omega)).2⟩, fun i hi => (x7 i hi).on ?_ (hf1 (184 + 2 * i) (by omega)).2⟩, fun x hx => ⟨?_, (hf1 x (by omega)).2⟩⟩
    · rw [hf3 11 (by omega), am_up_ne _ _ _ _ (Or.inr (by decide)), am_up_row _ _ _ _ (by decide), (hf1 11 (by omega)).1]; exact u1
    · rw [hf3 11 (by omega), am_up_eq]; rfl
    · rw [hf3 0 (by omega), am_up_row _ _ _ _ (by decide), am_up_ne _ _ _ _ (Or.inr (by decide)), (hf1 0 (by omega)).1]; exact x1
    · rw [hf3 0 (by omega), am_up_row _ _ _ _ (by decide), am_up_ne _ _ _ _ (Or.inr (by decide)), (hf1 0 (by omega)).1]; exact x2
    · rw [hf3 0 (by omega), am_up_row _ _ _ _ (by decide), am_up_eq]
    · rw [hrow _ (by omega) (by omega) (by omega), (hf1 _ (by omega)).1]
    · rw [hrow _ (by omega) (by omega) (by omega), (hf1 _ (by omega)).1]
    · rw [hrow _ (by omega) (by omega) (by omega), (hf1 _ (by omega)).1]
    · rw [hrow _ (by omega) (by omega) (by omega), (hf1 _ (by omega)).1]
    · rw [hrow _ (by omega) (by omega) (by omega), (hf1 _ (by omega)).1]
    · rw [hrow _ (by omega) (by omega) (by omega), (hf1 _ (by omega)).1]
    · rw [hrow _ (by omega) (by omega) (by omega), (hf1 _ (by omega)).1]
  · refine am_bipush (q := 9) (v := iZ (-3)) C dX10_again_7 rfl rfl ?_
    refine am_iret C T dX10_again_9 rfl (Nat.le_refl _) (Nat.le_refl _) ⟨_, rfl, ?_⟩
    rw [if_neg (by assumption), if_neg (by assumption)]
    exact ⟨rfl, _, _, rfl, hC, frC_refl⟩
