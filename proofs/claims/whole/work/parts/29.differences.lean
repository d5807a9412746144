variable {G : am_G} {I : Nat → Nat → Int32} {J : Nat → Nat → Int64}
/-- counts taken from one another: s times across, then s times up -/
def dA (f : Nat → Nat → Int64) : Nat → Nat → Nat → Int64
  | 0, u, q => f u q
  | s + 1, u, q => if s + 1 ≤ u then dA f s u q - dA f s (u - 1) q else dA f s u q
def dB (f : Nat → Nat → Int64) : Nat → Nat → Nat → Int64
  | 0, u, q => f u q
  | s + 1, u, q => if s + 1 ≤ q then dB f s u q - dB f s u (q - 1) else dB f s u q
def dD (f : Nat → Nat → Int64) (n u q : Nat) : Int64 := dB (dA f n) n u q
/-- terms taken in turn -/
def lpS (f : Nat → Int64) : Nat → Nat → Int64 → Int64
  | 0, _, acc => acc
  | n + 1, k, acc => lpS f n (k + 1) (acc + f k)
def tdS (D : Nat → Nat → Int64) (ci cj : Int) (n : Nat) : Nat → Nat → Int64 → Int64
  | 0, _, acc => acc
  | k + 1, u, acc => tdS D ci cj n k (u + 1) (lpS (fun q => D u q * chs ci u * chs cj q) (n + 1 - u) 0 acc)
set_option maxRecDepth 4000 in
theorem sp_X3_readDifferences {xh yh ax ay bx by0 kx ky : Int} {n : Nat} (hn : n ≤ 4) (hK : knF I kx ky) (hi1 : I 180 1 = iZ xh) (hi2 : I 180 2 = iZ yh) (hi5 : I 180 5 = iZ ax) (hi6 : I 180 6 = iZ ay) (hi7 : I 180 7 = iZ bx) (hi8 : I 180 8 = iZ by0) {f : Nat → Nat → Int64} (hv : ∀ u q : Nat, u + q ≤ n → rg (xh + (u : Int) * ax + (q : Int) * bx) ∧ rg (yh + (u : Int) * ay + (q : Int) * by0) ∧ (if 0 ≤ xh + (u : Int) * ax + (q : Int) * bx ∧ xh + (u : Int) * ax + (q : Int) * bx ≤ kx ∧ 0 ≤ yh + (u : Int) * ay + (q : Int) * by0 ∧ yh + (u : Int) * ay + (q : Int) * by0 ≤ ky then J 175 ((xh + (u : Int) * ax + (q : Int) * bx).toNat * 144 + (yh + (u : Int) * ay + (q : Int) * by0).toNat) else 0) = f u q) : am_S G mX3_readDifferences 2 0 0 [.ref 180, .int (iZ (n : Int)), .ref 174] (215, kK, kR, I, J) (am_qv (fun w' => ∃ J' : Nat → Nat → Int64, w' = (215, kK, kR, I, J') ∧ (∀ h, h ≠ 181 → J' h = J h) ∧ ∀ u q, u + q ≤ n → J' 181 (u * 5 + q) = dD f n u q)) := by
  refine am_spec (plainFor_of_name (by decide +kernel)) (Nat.le_of_ble_eq_true rfl) (L := [some (.ref 180), some (.int (iZ (n : Int))), some (.ref 174), none, none, none]) rfl (fun X C T => ?_)
  have a1 : ∀ (fuel : Nat) (u q : Nat) (J1 : Nat → Nat → Int64), (u ≤ n) → (u + q ≤ n + 1) → (∀ h, h ≠ 181 → J1 h = J h) → (∀ u1 q1 : Nat, u1 + q1 ≤ n → (u1 < u ∨ u1 = u ∧ q1 < q) → J1 181 (u1 * 5 + q1) = f u1 q1) → (6 - q) < fuel → (∀ (J2 : Nat → Nat → Int64), (∀ h, h ≠ 181 → J2 h = J h) → (∀ u1 q1 : Nat, u1 + q1 ≤ n → u1 < u + 1 → J2 181 (u1 * 5 + q1) = f u1 q1) → am_A G mX3_readDifferences X (am_rm 2 0 0) 73 [some (.ref 180), some (.int (iZ (n : Int))), some (.ref 174), some (.int (iZ (u : Int))), none, none] [] (215, kK, kR, I, J2) 0 0) → am_A G mX3_readDifferences X (am_rm 2 0 0) 10 [some (.ref 180), some (.int (iZ (n : Int))), some (.ref 174), some (.int (iZ (u : Int))), some (.int (iZ (q : Int))), none] [] (215, kK, kR, I, J1) 0 0 := by
    intro fuel
    induction fuel with
    | zero => intro u q J1 hu hq hJ hz hfu hk; exact absurd hfu (Nat.not_lt_zero _)
    | succ fuel ih =>
      intro u q J1 hu hq hJ hz hfu hk
      refine am_iload_n (q := 11) C dX3_readDifferences_10 rfl rfl ?_
      refine am_iload (q := 13) C dX3_readDifferences_11 rfl rfl ?_
      refine am_iaddZ (q := 14) C dX3_readDifferences_13 rfl ?_
      refine am_iload_n (q := 15) C dX3_readDifferences_14 rfl rfl ?_
      refine am_icmpZ_gt (q := 18) (tgt := 73) C dX3_readDifferences_15 (by decide) rfl ⟨by omega, by omega⟩ ⟨by omega, by omega⟩ (fun c1 => ?_) (fun c1 => ?_)
      · refine am_wkA (L1 := [some (.ref 180), some (.int (iZ (n : Int))), some (.ref 174), some (.int (iZ (u : Int))), none, none]) ⟨rfl, ⟨rfl, ⟨rfl, ⟨rfl, trivial⟩⟩⟩⟩ ?_
        exact hk _ hJ (fun u1 q1 h1 h2 => hz u1 q1 h1 (by omega))
      · refine am_aload_n (q := 19) C dX3_readDifferences_18 rfl rfl ?_
        refine am_iload_n (q := 20) C dX3_readDifferences_19 rfl rfl ?_
        refine am_iload (q := 22) C dX3_readDifferences_20 rfl rfl ?_
        refine am_aload_n (q := 23) C dX3_readDifferences_22 rfl rfl ?_
        refine am_aload_n (q := 24) C dX3_readDifferences_23 rfl rfl ?_
        refine am_getIe (q := 27) (v := (iZ xh)) C fb_X3_15 dX3_readDifferences_24 rfl rfl kk_180 (show 180 < 215 by decide) hi1 ?_
        refine am_iload_n (q := 28) C dX3_readDifferences_27 rfl rfl ?_
        refine am_aload_n (q := 29) C dX3_readDifferences_28 rfl rfl ?_
        refine am_getIe (q := 32) (v := (iZ ax)) C fb_X3_28 dX3_readDifferences_29 rfl rfl kk_180 (show 180 < 215 by decide) hi5 ?_
        refine am_imulZ (q := 33) C dX3_readDifferences_32 rfl ?_
        refine am_iaddZ (q := 34) C dX3_readDifferences_33 rfl ?_
        refine am_iload (q := 36) C dX3_readDifferences_34 rfl rfl ?_
        refine am_aload_n (q := 37) C dX3_readDifferences_36 rfl rfl ?_
        refine am_getIe (q := 40) (v := (iZ bx)) C fb_X3_34 dX3_readDifferences_37 rfl rfl kk_180 (show 180 < 215 by decide) hi7 ?_
        refine am_imulZ (q := 41) C dX3_readDifferences_40 rfl ?_
        refine am_iaddZ (q := 42) C dX3_readDifferences_41 rfl ?_
        refine am_aload_n (q := 43) C dX3_readDifferences_42 rfl rfl ?_
        refine am_getIe (q := 46) (v := (iZ yh)) C fb_X3_19 dX3_readDifferences_43 rfl rfl kk_180 (show 180 < 215 by decide) hi2 ?_
        refine am_iload_n (q := 47) C dX3_readDifferences_46 rfl rfl ?_
        refine am_aload_n (q := 48) C dX3_readDifferences_47 rfl rfl ?_
        refine am_getIe (q := 51) (v := (iZ ay)) C fb_X3_31 dX3_readDifferences_48 rfl rfl kk_180 (show 180 < 215 by decide) hi6 ?_
        refine am_imulZ (q := 52) C dX3_readDifferences_51 rfl ?_
        refine am_iaddZ (q := 53) C dX3_readDifferences_52 rfl ?_
        refine am_iload (q := 55) C dX3_readDifferences_53 rfl rfl ?_
        refine am_aload_n (q := 56) C dX3_readDifferences_55 rfl rfl ?_
        refine am_getIe (q := 59) (v := (iZ by0)) C fb_X3_37 dX3_readDifferences_56 rfl rfl kk_180 (show 180 < 215 by decide) hi8 ?_
        refine am_imulZ (q := 60) C dX3_readDifferences_59 rfl ?_
        refine am_iaddZ (q := 61) C dX3_readDifferences_60 rfl ?_
        refine am_callN (q := 64) (As := [.int (iZ (xh + ((u : Int) * ax) + ((q : Int) * bx))), .int (iZ (yh + ((u : Int) * ay) + ((q : Int) * by0)))]) (rest := [.int (iZ (q : Int)), .int (iZ (u : Int)), .ref 180]) C mb_X4_at im_X4_at se_X4_at mn_X3_76 cb_4 kk_174 (show 174 < 215 by decide) dX3_readDifferences_61 rfl (sp_X4_at hK (x := xh + ((u : Int) * ax) + ((q : Int) * bx)) (y := yh + ((u : Int) * ay) + ((q : Int) * by0)) (hv u q (by omega)).1 (hv u q (by omega)).2.1) rfl rfl ⟨by decide, by decide⟩ ⟨Nat.le_refl _, Nat.le_refl _⟩ (Nat.le_of_ble_eq_true rfl) (am_rle ?_)
        refine am_longE (y := f u q) ?_ ?_
        · rw [hJ 175 (by decide)]; exact (hv u q (by omega)).2.2
        refine am_callV (q := 67) (As := [.int (iZ (u : Int)), .int (iZ (q : Int)), .long (f u q)]) (rest := []) C mb_X3_set im_X3_set se_X3_set ml_X3_82 cb_3 kk_180 (show 180 < 215 by decide) dX3_readDifferences_64 rfl (sp_X3_set (g := u) (h := q) (by omega) (by omega)) rfl rfl ⟨by decide, by decide⟩ ⟨Nat.le_refl _, Nat.le_refl _⟩ (Nat.le_of_ble_eq_true rfl) (am_rve ?_)
        refine am_iincZ (q := 70) (L' := [some (.ref 180), some (.int (iZ (n : Int))), some (.ref 174), some (.int (iZ (u : Int))), some (.int (iZ ((q + 1 : Nat) : Int))), none]) C dX3_readDifferences_67 rfl rfl (by omega) (by decide) rfl rfl ?_
        refine am_goto (q := 10) C dX3_readDifferences_70 (by decide) ?_
        refine ih u (q + 1) _ hu (by omega) (fun h hh => by rw [am_up_row _ _ _ _ hh]; exact hJ h hh) (fun u1 q1 h1 h2 => ?_) (by omega) hk
        by_cases e : u1 * 5 + q1 = u * 5 + q
        · have e1 : u1 = u := by omega
          have e2 : q1 = q := by omega
          subst e1; subst e2; exact am_up_eq _ _ _ _
        · rw [am_up_ne _ _ _ _ (Or.inr e)]; exact hz u1 q1 h1 (by omega)
  have a2 : ∀ (fuel : Nat) (u : Nat) (J1 : Nat → Nat → Int64), (u ≤ n + 1) → (∀ h, h ≠ 181 → J1 h = J h) → (∀ u1 q1 : Nat, u1 + q1 ≤ n → u1 < u → J1 181 (u1 * 5 + q1) = f u1 q1) → (6 - u) < fuel → (∀ (J2 : Nat → Nat → Int64), (∀ h, h ≠ 181 → J2 h = J h) → (∀ u1 q1 : Nat, u1 + q1 ≤ n → J2 181 (u1 * 5 + q1) = f u1 q1) → am_A G mX3_readDifferences X (am_rm 2 0 0) 79 [some (.ref 180), some (.int (iZ (n : Int))), some (.ref 174), none, none, none] [] (215, kK, kR, I, J2) 0 0) → am_A G mX3_readDifferences X (am_rm 2 0 0) 2 [some (.ref 180), some (.int (iZ (n : Int))), some (.ref 174), some (.int (iZ (u : Int))), none, none] [] (215, kK, kR, I, J1) 0 0 := by
    intro fuel
    induction fuel with
    | zero => intro u J1 hu hJ hz hfu hk; exact absurd hfu (Nat.not_lt_zero _)
    | succ fuel ih =>
      intro u J1 hu hJ hz hfu hk
      refine am_iload_n (q := 3) C dX3_readDifferences_2 rfl rfl ?_
      refine am_iload_n (q := 4) C dX3_readDifferences_3 rfl rfl ?_
      refine am_icmpZ_gt (q := 7) (tgt := 79) C dX3_readDifferences_4 (by decide) rfl ⟨by omega, by omega⟩ ⟨by omega, by omega⟩ (fun c2 => ?_) (fun c2 => ?_)
      · refine am_wkA (L1 := [some (.ref 180), some (.int (iZ (n : Int))), some (.ref 174), none, none, none]) ⟨rfl, ⟨rfl, ⟨rfl, trivial⟩⟩⟩ ?_
        exact hk _ hJ (fun u1 q1 h1 => hz u1 q1 h1 (by omega))
      · refine am_iconst (q := 8) (v := iZ 0) C dX3_readDifferences_7 rfl rfl ?_
        refine am_istore (q := 10) (L' := [some (.ref 180), some (.int (iZ (n : Int))), some (.ref 174), some (.int (iZ (u : Int))), some (.int (iZ 0)), none]) C dX3_readDifferences_8 rfl (by decide) rfl rfl ?_
        refine a1 7 u 0 _ (by omega) (by omega) hJ (fun u1 q1 h1 h2 => hz u1 q1 h1 (by omega)) (by omega) (fun J2 hJ hz => ?_)
        refine am_iincZ (q := 76) (L' := [some (.ref 180), some (.int (iZ (n : Int))), some (.ref 174), some (.int (iZ ((u + 1 : Nat) : Int))), none, none]) C dX3_readDifferences_73 rfl rfl (by omega) (by decide) rfl rfl ?_
        refine am_goto (q := 2) C dX3_readDifferences_76 (by decide) ?_
        exact ih (u + 1) _ (by omega) hJ hz (by omega) hk
  have b1 : ∀ (fuel : Nat) (s u q : Nat) (J1 : Nat → Nat → Int64), (s + 1 ≤ u) → (u ≤ n) → (u + q ≤ n + 1) → (∀ h, h ≠ 181 → J1 h = J h) → (∀ u1 q1 : Nat, u1 + q1 ≤ n → J1 181 (u1 * 5 + q1) = if u < u1 ∨ u1 = u ∧ q1 < q then dA f (s + 1) u1 q1 else dA f s u1 q1) → (6 - q) < fuel → (∀ (J2 : Nat → Nat → Int64), (∀ h, h ≠ 181 → J2 h = J h) → (∀ u1 q1 : Nat, u1 + q1 ≤ n → J2 181 (u1 * 5 + q1) = if u ≤ u1 then dA f (s + 1) u1 q1 else dA f s u1 q1) → am_A G mX3_readDifferences X (am_rm 2 0 0) 140 [some (.ref 180), some (.int (iZ (n : Int))), some (.ref 174), some (.int (iZ ((s + 1 : Nat) : Int))), some (.int (iZ (u : Int))), none] [] (215, kK, kR, I, J2) 0 0) → am_A G mX3_readDifferences X (am_rm 2 0 0) 98 [some (.ref 180), some (.int (iZ (n : Int))), some (.ref 174), some (.int (iZ ((s + 1 : Nat) : Int))), some (.int (iZ (u : Int))), some (.int (iZ (q : Int)))] [] (215, kK, kR, I, J1) 0 0 := by
    intro fuel
    induction fuel with
    | zero => intro s u q J1 hs ha hb hJ hz hfu hk; exact absurd hfu (Nat.not_lt_zero _)
    | succ fuel ih =>
      intro s u q J1 hs ha hb hJ hz hfu hk
      refine am_iload (q := 100) C dX3_readDifferences_98 rfl rfl ?_
      refine am_iload (q := 102) C dX3_readDifferences_100 rfl rfl ?_
      refine am_iaddZ (q := 103) C dX3_readDifferences_102 rfl ?_
      refine am_iload_n (q := 104) C dX3_readDifferences_103 rfl rfl ?_
      refine am_icmpZ_gt (q := 107) (tgt := 140) C dX3_readDifferences_104 (by decide) rfl ⟨by omega, by omega⟩ ⟨by omega, by omega⟩ (fun c3 => ?_) (fun c3 => ?_)
      · refine am_wkA (L1 := [some (.ref 180), some (.int (iZ (n : Int))), some (.ref 174), some (.int (iZ ((s + 1 : Nat) : Int))), some (.int (iZ (u : Int))), none]) ⟨rfl, ⟨rfl, ⟨rfl, ⟨rfl, ⟨rfl, trivial⟩⟩⟩⟩⟩ ?_
        refine hk _ hJ (fun u1 q1 h1 => ?_)
        rw [hz u1 q1 h1]
        by_cases e3 : u ≤ u1
        · rw [if_pos e3, if_pos (by omega)]
        · rw [if_neg e3, if_neg (by omega)]
      · refine am_aload_n (q := 108) C dX3_readDifferences_107 rfl rfl ?_
        refine am_iload (q := 110) C dX3_readDifferences_108 rfl rfl ?_
        refine am_iload (q := 112) C dX3_readDifferences_110 rfl rfl ?_
        refine am_aload_n (q := 113) C dX3_readDifferences_112 rfl rfl ?_
        refine am_iload (q := 115) C dX3_readDifferences_113 rfl rfl ?_
        refine am_iload (q := 117) C dX3_readDifferences_115 rfl rfl ?_
        refine am_callV (q := 120) (As := [.int (iZ (u : Int)), .int (iZ (q : Int))]) (rest := [.int (iZ (q : Int)), .int (iZ (u : Int)), .ref 180]) C mb_X3_differenceAt im_X3_differenceAt se_X3_differenceAt ml_X3_86 cb_3 kk_180 (show 180 < 215 by decide) dX3_readDifferences_117 rfl (sp_X3_differenceAt (g := u) (h := q) (by omega) (by omega)) rfl rfl ⟨by decide, by decide⟩ ⟨Nat.le_refl _, Nat.le_refl _⟩ (Nat.le_of_ble_eq_true rfl) (am_rle ?_)
        refine am_longE (y := dA f s u q) ?_ ?_
        · rw [hz u q (by omega), if_neg (by omega)]
        refine am_aload_n (q := 121) C dX3_readDifferences_120 rfl rfl ?_
        refine am_iload (q := 123) C dX3_readDifferences_121 rfl rfl ?_
        refine am_iconst (q := 124) (v := iZ 1) C dX3_readDifferences_123 rfl rfl ?_
        refine am_isubZ (q := 125) C dX3_readDifferences_124 rfl ?_
        refine am_iload (q := 127) C dX3_readDifferences_125 rfl rfl ?_
        rw [show (u : Int) - 1 = ((u - 1 : Nat) : Int) by omega]
        refine am_callV (q := 130) (As := [.int (iZ ((u - 1 : Nat) : Int)), .int (iZ (q : Int))]) (rest := [.long (dA f s u q), .int (iZ (q : Int)), .int (iZ (u : Int)), .ref 180]) C mb_X3_differenceAt im_X3_differenceAt se_X3_differenceAt ml_X3_86 cb_3 kk_180 (show 180 < 215 by decide) dX3_readDifferences_127 rfl (sp_X3_differenceAt (g := u - 1) (h := q) (by omega) (by omega)) rfl rfl ⟨by decide, by decide⟩ ⟨Nat.le_refl _, Nat.le_refl _⟩ (Nat.le_of_ble_eq_true rfl) (am_rle ?_)
        refine am_longE (y := dA f s (u - 1) q) ?_ ?_
        · rw [hz (u - 1) (q) (by omega), if_neg (by omega)]
        refine am_lsub (q := 131) C dX3_readDifferences_130 rfl ?_
        refine am_callV (q := 134) (As := [.int (iZ (u : Int)), .int (iZ (q : Int)), .long ((dA f s u q) - (dA f s (u - 1) q))]) (rest := []) C mb_X3_set im_X3_set se_X3_set ml_X3_82 cb_3 kk_180 (show 180 < 215 by decide) dX3_readDifferences_131 rfl (sp_X3_set (g := u) (h := q) (by omega) (by omega)) rfl rfl ⟨by decide, by decide⟩ ⟨Nat.le_refl _, Nat.le_refl _⟩ (Nat.le_of_ble_eq_true rfl) (am_rve ?_)
        refine am_iincZ (q := 137) (L' := [some (.ref 180), some (.int (iZ (n : Int))), some (.ref 174), some (.int (iZ ((s + 1 : Nat) : Int))), some (.int (iZ (u : Int))), some (.int (iZ ((q + 1 : Nat) : Int)))]) C dX3_readDifferences_134 rfl rfl (by omega) (by decide) rfl rfl ?_
        refine am_goto (q := 98) C dX3_readDifferences_137 (by decide) ?_
        refine ih s u (q + 1) _ hs ha (by omega) (fun h hh => by rw [am_up_row _ _ _ _ hh]; exact hJ h hh) (fun u1 q1 h1 => ?_) (by omega) hk
        by_cases e : u1 * 5 + q1 = u * 5 + q
        · have e1 : u1 = u := by omega
          have e2 : q1 = q := by omega
          subst e1; subst e2
          rw [am_up_eq, if_pos (by omega)]
          exact (if_pos hs).symm
        · rw [am_up_ne _ _ _ _ (Or.inr e), hz u1 q1 h1]
          by_cases e3 : u < u1 ∨ u1 = u ∧ q1 < q
          · rw [if_pos e3, if_pos (by omega)]
          · rw [if_neg e3, if_neg (by omega)]
  have b2 : ∀ (fuel : Nat) (s u : Nat) (J1 : Nat → Nat → Int64), (s ≤ u) → (u ≤ n) → (∀ h, h ≠ 181 → J1 h = J h) → (∀ u1 q1 : Nat, u1 + q1 ≤ n → J1 181 (u1 * 5 + q1) = if u < u1 then dA f (s + 1) u1 q1 else dA f s u1 q1) → (u) < fuel → (∀ (J2 : Nat → Nat → Int64), (∀ h, h ≠ 181 → J2 h = J h) → (∀ u1 q1 : Nat, u1 + q1 ≤ n → J2 181 (u1 * 5 + q1) = dA f (s + 1) u1 q1) → am_A G mX3_readDifferences X (am_rm 2 0 0) 146 [some (.ref 180), some (.int (iZ (n : Int))), some (.ref 174), some (.int (iZ ((s + 1 : Nat) : Int))), none, none] [] (215, kK, kR, I, J2) 0 0) → am_A G mX3_readDifferences X (am_rm 2 0 0) 89 [some (.ref 180), some (.int (iZ (n : Int))), some (.ref 174), some (.int (iZ ((s + 1 : Nat) : Int))), some (.int (iZ (u : Int))), none] [] (215, kK, kR, I, J1) 0 0 := by
    intro fuel
    induction fuel with
    | zero => intro s u J1 hs ha hJ hz hfu hk; exact absurd hfu (Nat.not_lt_zero _)
    | succ fuel ih =>
      intro s u J1 hs ha hJ hz hfu hk
      refine am_iload (q := 91) C dX3_readDifferences_89 rfl rfl ?_
      refine am_iload_n (q := 92) C dX3_readDifferences_91 rfl rfl ?_
      refine am_icmpZ_lt (q := 95) (tgt := 146) C dX3_readDifferences_92 (by decide) rfl ⟨by omega, by omega⟩ ⟨by omega, by omega⟩ (fun c4 => ?_) (fun c4 => ?_)
      · refine am_wkA (L1 := [some (.ref 180), some (.int (iZ (n : Int))), some (.ref 174), some (.int (iZ ((s + 1 : Nat) : Int))), none, none]) ⟨rfl, ⟨rfl, ⟨rfl, ⟨rfl, trivial⟩⟩⟩⟩ ?_
        refine hk _ hJ (fun u1 q1 h1 => ?_)
        rw [hz u1 q1 h1]
        by_cases e3 : u < u1
        · rw [if_pos e3]
        · rw [if_neg e3]; exact (if_neg (by omega)).symm
      · refine am_iconst (q := 96) (v := iZ 0) C dX3_readDifferences_95 rfl rfl ?_
        refine am_istore (q := 98) (L' := [some (.ref 180), some (.int (iZ (n : Int))), some (.ref 174), some (.int (iZ ((s + 1 : Nat) : Int))), some (.int (iZ (u : Int))), some (.int (iZ 0))]) C dX3_readDifferences_96 rfl (by decide) rfl rfl ?_
        refine b1 7 s u 0 _ (by omega) (by omega) (by omega) hJ (fun u1 q1 h1 => by
          rw [hz u1 q1 h1]
          by_cases e3 : u < u1
          · rw [if_pos e3, if_pos (by omega)]
          · rw [if_neg e3, if_neg (by omega)]) (by omega) (fun J2 hJ hz => ?_)
        refine am_iincZ (q := 143) (L' := [some (.ref 180), some (.int (iZ (n : Int))), some (.ref 174), some (.int (iZ ((s + 1 : Nat) : Int))), some (.int (iZ ((u : Int) - 1))), none]) C dX3_readDifferences_140 rfl rfl (by omega) (by decide) rfl rfl ?_
        refine am_goto (q := 89) C dX3_readDifferences_143 (by decide) ?_
        rw [show (u : Int) - 1 = ((u - 1 : Nat) : Int) by omega]
        refine ih s (u - 1) _ (by omega) (by omega) hJ (fun u1 q1 h1 => ?_) (by omega) hk
        rw [hz u1 q1 h1]
        by_cases e3 : u ≤ u1
        · rw [if_pos e3, if_pos (by omega)]
        · rw [if_neg e3, if_neg (by omega)]
  have b3 : ∀ (fuel : Nat) (s : Nat) (J1 : Nat → Nat → Int64), (s ≤ n) → (∀ h, h ≠ 181 → J1 h = J h) → (∀ u1 q1 : Nat, u1 + q1 ≤ n → J1 181 (u1 * 5 + q1) = dA f s u1 q1) → (n - s) < fuel → (∀ (J2 : Nat → Nat → Int64), (∀ h, h ≠ 181 → J2 h = J h) → (∀ u1 q1 : Nat, u1 + q1 ≤ n → J2 181 (u1 * 5 + q1) = dA f n u1 q1) → am_A G mX3_readDifferences X (am_rm 2 0 0) 152 [some (.ref 180), some (.int (iZ (n : Int))), some (.ref 174), none, none, none] [] (215, kK, kR, I, J2) 0 0) → am_A G mX3_readDifferences X (am_rm 2 0 0) 81 [some (.ref 180), some (.int (iZ (n : Int))), some (.ref 174), some (.int (iZ ((s + 1 : Nat) : Int))), none, none] [] (215, kK, kR, I, J1) 0 0 := by
    intro fuel
    induction fuel with
    | zero => intro s J1 hs hJ hz hfu hk; exact absurd hfu (Nat.not_lt_zero _)
    | succ fuel ih =>
      intro s J1 hs hJ hz hfu hk
      refine am_iload_n (q := 82) C dX3_readDifferences_81 rfl rfl ?_
      refine am_iload_n (q := 83) C dX3_readDifferences_82 rfl rfl ?_
      refine am_icmpZ_gt (q := 86) (tgt := 152) C dX3_readDifferences_83 (by decide) rfl ⟨by omega, by omega⟩ ⟨by omega, by omega⟩ (fun c5 => ?_) (fun c5 => ?_)
      · refine am_wkA (L1 := [some (.ref 180), some (.int (iZ (n : Int))), some (.ref 174), none, none, none]) ⟨rfl, ⟨rfl, ⟨rfl, trivial⟩⟩⟩ ?_
        exact hk _ hJ ((show s = n by omega) ▸ hz)
      · refine am_iload_n (q := 87) C dX3_readDifferences_86 rfl rfl ?_
        refine am_istore (q := 89) (L' := [some (.ref 180), some (.int (iZ (n : Int))), some (.ref 174), some (.int (iZ ((s + 1 : Nat) : Int))), some (.int (iZ (n : Int))), none]) C dX3_readDifferences_87 rfl (by decide) rfl rfl ?_
        refine b2 7 s n _ (by omega) (by omega) hJ (fun u1 q1 h1 => by rw [hz u1 q1 h1, if_neg (by omega)]) (by omega) (fun J2 hJ hz => ?_)
        refine am_iincZ (q := 149) (L' := [some (.ref 180), some (.int (iZ (n : Int))), some (.ref 174), some (.int (iZ ((s + 2 : Nat) : Int))), none, none]) C dX3_readDifferences_146 rfl rfl (by omega) (by decide) rfl rfl ?_
        refine am_goto (q := 81) C dX3_readDifferences_149 (by decide) ?_
        exact ih (s + 1) _ (by omega) hJ hz (by omega) hk
  have e1 : ∀ (fuel : Nat) (s q u : Nat) (J1 : Nat → Nat → Int64), (s + 1 ≤ q) → (q ≤ n) → (u + q ≤ n + 1) → (∀ h, h ≠ 181 → J1 h = J h) → (∀ u1 q1 : Nat, u1 + q1 ≤ n → J1 181 (u1 * 5 + q1) = if q < q1 ∨ q1 = q ∧ u1 < u then dB (dA f n) (s + 1) u1 q1 else dB (dA f n) s u1 q1) → (6 - u) < fuel → (∀ (J2 : Nat → Nat → Int64), (∀ h, h ≠ 181 → J2 h = J h) → (∀ u1 q1 : Nat, u1 + q1 ≤ n → J2 181 (u1 * 5 + q1) = if q ≤ q1 then dB (dA f n) (s + 1) u1 q1 else dB (dA f n) s u1 q1) → am_A G mX3_readDifferences X (am_rm 2 0 0) 213 [some (.ref 180), some (.int (iZ (n : Int))), some (.ref 174), some (.int (iZ ((s + 1 : Nat) : Int))), some (.int (iZ (q : Int))), none] [] (215, kK, kR, I, J2) 0 0) → am_A G mX3_readDifferences X (am_rm 2 0 0) 171 [some (.ref 180), some (.int (iZ (n : Int))), some (.ref 174), some (.int (iZ ((s + 1 : Nat) : Int))), some (.int (iZ (q : Int))), some (.int (iZ (u : Int)))] [] (215, kK, kR, I, J1) 0 0 := by
    intro fuel
    induction fuel with
    | zero => intro s q u J1 hs ha hb hJ hz hfu hk; exact absurd hfu (Nat.not_lt_zero _)
    | succ fuel ih =>
      intro s q u J1 hs ha hb hJ hz hfu hk
      refine am_iload (q := 173) C dX3_readDifferences_171 rfl rfl ?_
      refine am_iload (q := 175) C dX3_readDifferences_173 rfl rfl ?_
      refine am_iaddZ (q := 176) C dX3_readDifferences_175 rfl ?_
      refine am_iload_n (q := 177) C dX3_readDifferences_176 rfl rfl ?_
      refine am_icmpZ_gt (q := 180) (tgt := 213) C dX3_readDifferences_177 (by decide) rfl ⟨by omega, by omega⟩ ⟨by omega, by omega⟩ (fun c6 => ?_) (fun c6 => ?_)
      · refine am_wkA (L1 := [some (.ref 180), some (.int (iZ (n : Int))), some (.ref 174), some (.int (iZ ((s + 1 : Nat) : Int))), some (.int (iZ (q : Int))), none]) ⟨rfl, ⟨rfl, ⟨rfl, ⟨rfl, ⟨rfl, trivial⟩⟩⟩⟩⟩ ?_
        refine hk _ hJ (fun u1 q1 h1 => ?_)
        rw [hz u1 q1 h1]
        by_cases e3 : q ≤ q1
        · rw [if_pos e3, if_pos (by omega)]
        · rw [if_neg e3, if_neg (by omega)]
      · refine am_aload_n (q := 181) C dX3_readDifferences_180 rfl rfl ?_
        refine am_iload (q := 183) C dX3_readDifferences_181 rfl rfl ?_
        refine am_iload (q := 185) C dX3_readDifferences_183 rfl rfl ?_
        refine am_aload_n (q := 186) C dX3_readDifferences_185 rfl rfl ?_
        refine am_iload (q := 188) C dX3_readDifferences_186 rfl rfl ?_
        refine am_iload (q := 190) C dX3_readDifferences_188 rfl rfl ?_
        refine am_callV (q := 193) (As := [.int (iZ (u : Int)), .int (iZ (q : Int))]) (rest := [.int (iZ (q : Int)), .int (iZ (u : Int)), .ref 180]) C mb_X3_differenceAt im_X3_differenceAt se_X3_differenceAt ml_X3_86 cb_3 kk_180 (show 180 < 215 by decide) dX3_readDifferences_190 rfl (sp_X3_differenceAt (g := u) (h := q) (by omega) (by omega)) rfl rfl ⟨by decide, by decide⟩ ⟨Nat.le_refl _, Nat.le_refl _⟩ (Nat.le_of_ble_eq_true rfl) (am_rle ?_)
        refine am_longE (y := dB (dA f n) s u q) ?_ ?_
        · rw [hz u q (by omega), if_neg (by omega)]
        refine am_aload_n (q := 194) C dX3_readDifferences_193 rfl rfl ?_
        refine am_iload (q := 196) C dX3_readDifferences_194 rfl rfl ?_
        refine am_iload (q := 198) C dX3_readDifferences_196 rfl rfl ?_
        refine am_iconst (q := 199) (v := iZ 1) C dX3_readDifferences_198 rfl rfl ?_
        refine am_isubZ (q := 200) C dX3_readDifferences_199 rfl ?_
        rw [show (q : Int) - 1 = ((q - 1 : Nat) : Int) by omega]
        refine am_callV (q := 203) (As := [.int (iZ (u : Int)), .int (iZ ((q - 1 : Nat) : Int))]) (rest := [.long (dB (dA f n) s u q), .int (iZ (q : Int)), .int (iZ (u : Int)), .ref 180]) C mb_X3_differenceAt im_X3_differenceAt se_X3_differenceAt ml_X3_86 cb_3 kk_180 (show 180 < 215 by decide) dX3_readDifferences_200 rfl (sp_X3_differenceAt (g := u) (h := q - 1) (by omega) (by omega)) rfl rfl ⟨by decide, by decide⟩ ⟨Nat.le_refl _, Nat.le_refl _⟩ (Nat.le_of_ble_eq_true rfl) (am_rle ?_)
        refine am_longE (y := dB (dA f n) s u (q - 1)) ?_ ?_
        · rw [hz (u) (q - 1) (by omega), if_neg (by omega)]
        refine am_lsub (q := 204) C dX3_readDifferences_203 rfl ?_
        refine am_callV (q := 207) (As := [.int (iZ (u : Int)), .int (iZ (q : Int)), .long ((dB (dA f n) s u q) - (dB (dA f n) s u (q - 1)))]) (rest := []) C mb_X3_set im_X3_set se_X3_set ml_X3_82 cb_3 kk_180 (show 180 < 215 by decide) dX3_readDifferences_204 rfl (sp_X3_set (g := u) (h := q) (by omega) (by omega)) rfl rfl ⟨by decide, by decide⟩ ⟨Nat.le_refl _, Nat.le_refl _⟩ (Nat.le_of_ble_eq_true rfl) (am_rve ?_)
        refine am_iincZ (q := 210) (L' := [some (.ref 180), some (.int (iZ (n : Int))), some (.ref 174), some (.int (iZ ((s + 1 : Nat) : Int))), some (.int (iZ (q : Int))), some (.int (iZ ((u + 1 : Nat) : Int)))]) C dX3_readDifferences_207 rfl rfl (by omega) (by decide) rfl rfl ?_
        refine am_goto (q := 171) C dX3_readDifferences_210 (by decide) ?_
        refine ih s q (u + 1) _ hs ha (by omega) (fun h hh => by rw [am_up_row _ _ _ _ hh]; exact hJ h hh) (fun u1 q1 h1 => ?_) (by omega) hk
        by_cases e : u1 * 5 + q1 = u * 5 + q
        · have e1 : u1 = u := by omega
          have e2 : q1 = q := by omega
          subst e1; subst e2
          rw [am_up_eq, if_pos (by omega)]
          exact (if_pos hs).symm
        · rw [am_up_ne _ _ _ _ (Or.inr e), hz u1 q1 h1]
          by_cases e3 : q < q1 ∨ q1 = q ∧ u1 < u
          · rw [if_pos e3, if_pos (by omega)]
          · rw [if_neg e3, if_neg (by omega)]
  have e2 : ∀ (fuel : Nat) (s q : Nat) (J1 : Nat → Nat → Int64), (s ≤ q) → (q ≤ n) → (∀ h, h ≠ 181 → J1 h = J h) → (∀ u1 q1 : Nat, u1 + q1 ≤ n → J1 181 (u1 * 5 + q1) = if q < q1 then dB (dA f n) (s + 1) u1 q1 else dB (dA f n) s u1 q1) → (q) < fuel → (∀ (J2 : Nat → Nat → Int64), (∀ h, h ≠ 181 → J2 h = J h) → (∀ u1 q1 : Nat, u1 + q1 ≤ n → J2 181 (u1 * 5 + q1) = dB (dA f n) (s + 1) u1 q1) → am_A G mX3_readDifferences X (am_rm 2 0 0) 219 [some (.ref 180), some (.int (iZ (n : Int))), some (.ref 174), some (.int (iZ ((s + 1 : Nat) : Int))), none, none] [] (215, kK, kR, I, J2) 0 0) → am_A G mX3_readDifferences X (am_rm 2 0 0) 162 [some (.ref 180), some (.int (iZ (n : Int))), some (.ref 174), some (.int (iZ ((s + 1 : Nat) : Int))), some (.int (iZ (q : Int))), none] [] (215, kK, kR, I, J1) 0 0 := by
    intro fuel
    induction fuel with
    | zero => intro s q J1 hs ha hJ hz hfu hk; exact absurd hfu (Nat.not_lt_zero _)
    | succ fuel ih =>
      intro s q J1 hs ha hJ hz hfu hk
      refine am_iload (q := 164) C dX3_readDifferences_162 rfl rfl ?_
      refine am_iload_n (q := 165) C dX3_readDifferences_164 rfl rfl ?_
      refine am_icmpZ_lt (q := 168) (tgt := 219) C dX3_readDifferences_165 (by decide) rfl ⟨by omega, by omega⟩ ⟨by omega, by omega⟩ (fun c7 => ?_) (fun c7 => ?_)
      · refine am_wkA (L1 := [some (.ref 180), some (.int (iZ (n : Int))), some (.ref 174), some (.int (iZ ((s + 1 : Nat) : Int))), none, none]) ⟨rfl, ⟨rfl, ⟨rfl, ⟨rfl, trivial⟩⟩⟩⟩ ?_
        refine hk _ hJ (fun u1 q1 h1 => ?_)
        rw [hz u1 q1 h1]
        by_cases e3 : q < q1
        · rw [if_pos e3]
        · rw [if_neg e3]; exact (if_neg (by omega)).symm
      · refine am_iconst (q := 169) (v := iZ 0) C dX3_readDifferences_168 rfl rfl ?_
        refine am_istore (q := 171) (L' := [some (.ref 180), some (.int (iZ (n : Int))), some (.ref 174), some (.int (iZ ((s + 1 : Nat) : Int))), some (.int (iZ (q : Int))), some (.int (iZ 0))]) C dX3_readDifferences_169 rfl (by decide) rfl rfl ?_
        refine e1 7 s q 0 _ (by omega) (by omega) (by omega) hJ (fun u1 q1 h1 => by
          rw [hz u1 q1 h1]
          by_cases e3 : q < q1
          · rw [if_pos e3, if_pos (by omega)]
          · rw [if_neg e3, if_neg (by omega)]) (by omega) (fun J2 hJ hz => ?_)
        refine am_iincZ (q := 216) (L' := [some (.ref 180), some (.int (iZ (n : Int))), some (.ref 174), some (.int (iZ ((s + 1 : Nat) : Int))), some (.int (iZ ((q : Int) - 1))), none]) C dX3_readDifferences_213 rfl rfl (by omega) (by decide) rfl rfl ?_
        refine am_goto (q := 162) C dX3_readDifferences_216 (by decide) ?_
        rw [show (q : Int) - 1 = ((q - 1 : Nat) : Int) by omega]
        refine ih s (q - 1) _ (by omega) (by omega) hJ (fun u1 q1 h1 => ?_) (by omega) hk
        rw [hz u1 q1 h1]
        by_cases e3 : q ≤ q1
        · rw [if_pos e3, if_pos (by omega)]
        · rw [if_neg e3, if_neg (by omega)]
  have e3 : ∀ (fuel : Nat) (s : Nat) (J1 : Nat → Nat → Int64), (s ≤ n) → (∀ h, h ≠ 181 → J1 h = J h) → (∀ u1 q1 : Nat, u1 + q1 ≤ n → J1 181 (u1 * 5 + q1) = dB (dA f n) s u1 q1) → (n - s) < fuel → (∀ (J2 : Nat → Nat → Int64), (∀ h, h ≠ 181 → J2 h = J h) → (∀ u1 q1 : Nat, u1 + q1 ≤ n → J2 181 (u1 * 5 + q1) = dB (dA f n) n u1 q1) → am_A G mX3_readDifferences X (am_rm 2 0 0) 225 [some (.ref 180), some (.int (iZ (n : Int))), some (.ref 174), none, none, none] [] (215, kK, kR, I, J2) 0 0) → am_A G mX3_readDifferences X (am_rm 2 0 0) 154 [some (.ref 180), some (.int (iZ (n : Int))), some (.ref 174), some (.int (iZ ((s + 1 : Nat) : Int))), none, none] [] (215, kK, kR, I, J1) 0 0 := by
    intro fuel
    induction fuel with
    | zero => intro s J1 hs hJ hz hfu hk; exact absurd hfu (Nat.not_lt_zero _)
    | succ fuel ih =>
      intro s J1 hs hJ hz hfu hk
      refine am_iload_n (q := 155) C dX3_readDifferences_154 rfl rfl ?_
      refine am_iload_n (q := 156) C dX3_readDifferences_155 rfl rfl ?_
      refine am_icmpZ_gt (q := 159) (tgt := 225) C dX3_readDifferences_156 (by decide) rfl ⟨by omega, by omega⟩ ⟨by omega, by omega⟩ (fun c8 => ?_) (fun c8 => ?_)
      · refine am_wkA (L1 := [some (.ref 180), some (.int (iZ (n : Int))), some (.ref 174), none, none, none]) ⟨rfl, ⟨rfl, ⟨rfl, trivial⟩⟩⟩ ?_
        exact hk _ hJ ((show s = n by omega) ▸ hz)
      · refine am_iload_n (q := 160) C dX3_readDifferences_159 rfl rfl ?_
        refine am_istore (q := 162) (L' := [some (.ref 180), some (.int (iZ (n : Int))), some (.ref 174), some (.int (iZ ((s + 1 : Nat) : Int))), some (.int (iZ (n : Int))), none]) C dX3_readDifferences_160 rfl (by decide) rfl rfl ?_
        refine e2 7 s n _ (by omega) (by omega) hJ (fun u1 q1 h1 => by rw [hz u1 q1 h1, if_neg (by omega)]) (by omega) (fun J2 hJ hz => ?_)
        refine am_iincZ (q := 222) (L' := [some (.ref 180), some (.int (iZ (n : Int))), some (.ref 174), some (.int (iZ ((s + 2 : Nat) : Int))), none, none]) C dX3_readDifferences_219 rfl rfl (by omega) (by decide) rfl rfl ?_
        refine am_goto (q := 154) C dX3_readDifferences_222 (by decide) ?_
        exact ih (s + 1) _ (by omega) hJ hz (by omega) hk
  refine am_iconst (q := 1) (v := iZ 0) C dX3_readDifferences_0 rfl rfl ?_
  refine am_istore_n (q := 2) (L' := [some (.ref 180), some (.int (iZ (n : Int))), some (.ref 174), some (.int (iZ 0)), none, none]) C dX3_readDifferences_1 rfl (by decide) rfl rfl ?_
  refine a2 7 0 J (by omega) (fun h hh => rfl) (fun u1 q1 h1 h2 => absurd h2 (Nat.not_lt_zero _)) (by omega) (fun J2 hJ hz => ?_)
  refine am_iconst (q := 80) (v := iZ 1) C dX3_readDifferences_79 rfl rfl ?_
  refine am_istore_n (q := 81) (L' := [some (.ref 180), some (.int (iZ (n : Int))), some (.ref 174), some (.int (iZ 1)), none, none]) C dX3_readDifferences_80 rfl (by decide) rfl rfl ?_
  refine b3 6 0 _ (Nat.zero_le _) hJ hz (by omega) (fun J2 hJ hz => ?_)
  refine am_iconst (q := 153) (v := iZ 1) C dX3_readDifferences_152 rfl rfl ?_
  refine am_istore_n (q := 154) (L' := [some (.ref 180), some (.int (iZ (n : Int))), some (.ref 174), some (.int (iZ 1)), none, none]) C dX3_readDifferences_153 rfl (by decide) rfl rfl ?_
  refine e3 6 0 _ (Nat.zero_le _) hJ hz (by omega) (fun J2 hJ hz => ?_)
  refine am_vret C T dX3_readDifferences_225 rfl (Nat.le_refl _) (Nat.le_refl _) ⟨rfl, ?_⟩
  exact ⟨_, rfl, hJ, hz⟩
set_option maxRecDepth 4000 in
theorem sp_X3_told {xh yh zi zj ax ay bx by0 kx ky : Int} {n : Nat} (hn : n ≤ 4) (hK : knF I kx ky) (hi1 : I 180 1 = iZ xh) (hi2 : I 180 2 = iZ yh) (hi3 : I 180 3 = iZ zi) (hi4 : I 180 4 = iZ zj) (hi5 : I 180 5 = iZ ax) (hi6 : I 180 6 = iZ ay) (hi7 : I 180 7 = iZ bx) (hi8 : I 180 8 = iZ by0) {f : Nat → Nat → Int64} (hv : ∀ u q : Nat, u + q ≤ n → rg (xh + (u : Int) * ax + (q : Int) * bx) ∧ rg (yh + (u : Int) * ay + (q : Int) * by0) ∧ (if 0 ≤ xh + (u : Int) * ax + (q : Int) * bx ∧ xh + (u : Int) * ax + (q : Int) * bx ≤ kx ∧ 0 ≤ yh + (u : Int) * ay + (q : Int) * by0 ∧ yh + (u : Int) * ay + (q : Int) * by0 ≤ ky then J 175 ((xh + (u : Int) * ax + (q : Int) * bx).toNat * 144 + (yh + (u : Int) * ay + (q : Int) * by0).toNat) else 0) = f u q) (rzi : -10000 ≤ zi ∧ zi ≤ 10000) (rzj : -10000 ≤ zj ∧ zj ≤ 10000) : am_S G mX3_told 3 0 0 [.ref 180, .int (iZ (n : Int)), .ref 174] (215, kK, kR, I, J) (am_ql (fun r w' => r = tdS (dD f n) zi zj n (n + 1) 0 0 ∧ ∃ J' : Nat → Nat → Int64, w' = (215, kK, kR, I, J') ∧ ∀ h, h ≠ 181 → J' h = J h)) := by
  refine am_spec (plainFor_of_name (by decide +kernel)) (Nat.le_of_ble_eq_true rfl) (L := [some (.ref 180), some (.int (iZ (n : Int))), some (.ref 174), none, none, none, none, none, none, none, none]) rfl (fun X C T => ?_)
  have h9 : ∀ (J1 : Nat → Nat → Int64), (∀ h, h ≠ 181 → J1 h = J h) → (∀ u q, u + q ≤ n → J1 181 (u * 5 + q) = dD f n u q) → am_A G mX3_told X (am_rm 3 0 0) 6 [some (.ref 180), some (.int (iZ (n : Int))), some (.ref 174), none, none, none, none, none, none, none, none] [] (215, kK, kR, I, J1) 0 0 := by
    intro J1 hJ1 hD
    have lp1 : ∀ (fuel : Nat) (u q r : Nat) (acc : Int64), (u ≤ n) → (u + q + r = n + 1) → (r) < fuel → (am_A G mX3_told X (am_rm 3 0 0) 71 [some (.ref 180), some (.int (iZ (n : Int))), some (.ref 174), some (.long (lpS (fun q => dD f n u q * chs zi u * chs zj q) r q acc)), none, some (.long (chs zi u)), none, some (.int (iZ (u : Int))), none, none, none] [] (215, kK, kR, I, J1) 0 0) → am_A G mX3_told X (am_rm 3 0 0) 26 [some (.ref 180), some (.int (iZ (n : Int))), some (.ref 174), some (.long acc), none, some (.long (chs zi u)), none, some (.int (iZ (u : Int))), some (.long (chs zj q)), none, some (.int (iZ (q : Int)))] [] (215, kK, kR, I, J1) 0 0 := by
      intro fuel
      induction fuel with
      | zero => intro u q r acc hu hq hfu hk; exact absurd hfu (Nat.not_lt_zero _)
      | succ fuel ih =>
        intro u q r acc hu hq hfu hk
        refine am_iload (q := 28) C dX3_told_26 rfl rfl ?_
        refine am_iload (q := 30) C dX3_told_28 rfl rfl ?_
        refine am_iaddZ (q := 31) C dX3_told_30 rfl ?_
        refine am_iload_n (q := 32) C dX3_told_31 rfl rfl ?_
        refine am_icmpZ_gt (q := 35) (tgt := 71) C dX3_told_32 (by decide) rfl ⟨by omega, by omega⟩ ⟨by omega, by omega⟩ (fun c1 => ?_) (fun c1 => ?_)
        · refine am_wkA (L1 := [some (.ref 180), some (.int (iZ (n : Int))), some (.ref 174), some (.long acc), none, some (.long (chs zi u)), none, some (.int (iZ (u : Int))), none, none, none]) ⟨rfl, ⟨rfl, ⟨rfl, ⟨rfl, ⟨rfl, ⟨rfl, trivial⟩⟩⟩⟩⟩⟩ ?_
          obtain rfl : r = 0 := by omega
          exact hk
        · refine am_lload_n (q := 36) C dX3_told_35 rfl rfl ?_
          refine am_aload_n (q := 37) C dX3_told_36 rfl rfl ?_
          refine am_iload (q := 39) C dX3_told_37 rfl rfl ?_
          refine am_iload (q := 41) C dX3_told_39 rfl rfl ?_
          refine am_callV (q := 44) (As := [.int (iZ (u : Int)), .int (iZ (q : Int))]) (rest := [.long acc]) C mb_X3_differenceAt im_X3_differenceAt se_X3_differenceAt ml_X3_86 cb_3 kk_180 (show 180 < 215 by decide) dX3_told_41 rfl (sp_X3_differenceAt (g := u) (h := q) (by omega) (by omega)) rfl rfl ⟨by decide, by decide⟩ ⟨Nat.le_refl _, Nat.le_refl _⟩ (Nat.le_of_ble_eq_true rfl) (am_rle ?_)
          refine am_longE (y := dD f n u q) (hD u q (by omega)) ?_
          refine am_lload (q := 46) C dX3_told_44 rfl rfl ?_
          refine am_lmul (q := 47) C dX3_told_46 rfl ?_
          refine am_lload (q := 49) C dX3_told_47 rfl rfl ?_
          refine am_lmul (q := 50) C dX3_told_49 rfl ?_
          refine am_ladd (q := 51) C dX3_told_50 rfl ?_
          refine am_lstore_n (q := 52) (L' := [some (.ref 180), some (.int (iZ (n : Int))), some (.ref 174), some (.long (acc + (((dD f n u q) * (chs zi u)) * (chs zj q)))), none, some (.long (chs zi u)), none, some (.int (iZ (u : Int))), some (.long (chs zj q)), none, some (.int (iZ (q : Int)))]) C dX3_told_51 rfl (by decide) rfl rfl ?_
          refine am_lload (q := 54) C dX3_told_52 rfl rfl ?_
          refine am_aload_n (q := 55) C dX3_told_54 rfl rfl ?_
          refine am_getIe (q := 58) (v := (iZ zj)) C fb_X3_25 dX3_told_55 rfl rfl kk_180 (show 180 < 215 by decide) hi4 ?_
          refine am_iload (q := 60) C dX3_told_58 rfl rfl ?_
          refine am_callS (q := 63) (As := [.long (chs zj q), .int (iZ zj), .int (iZ (q : Int))]) (rest := []) C mb_X3_chooseNext st_X3_chooseNext ml_X3_93 dX3_told_60 rfl (sp_X3_chooseNext (v := chs zj q) (n := zj) rzj (k := q) (by omega)) rfl rfl ⟨by decide, by decide⟩ ⟨Nat.le_refl _, Nat.le_refl _⟩ (Nat.le_of_ble_eq_true rfl) (am_rle ?_)
          refine am_longE (y := chs zj (q + 1)) rfl ?_
          refine am_lstore (q := 65) (L' := [some (.ref 180), some (.int (iZ (n : Int))), some (.ref 174), some (.long (acc + (((dD f n u q) * (chs zi u)) * (chs zj q)))), none, some (.long (chs zi u)), none, some (.int (iZ (u : Int))), some (.long (chs zj (q + 1))), none, some (.int (iZ (q : Int)))]) C dX3_told_63 rfl (by decide) rfl rfl ?_
          refine am_iincZ (q := 68) (L' := [some (.ref 180), some (.int (iZ (n : Int))), some (.ref 174), some (.long (acc + (((dD f n u q) * (chs zi u)) * (chs zj q)))), none, some (.long (chs zi u)), none, some (.int (iZ (u : Int))), some (.long (chs zj (q + 1))), none, some (.int (iZ ((q + 1 : Nat) : Int)))]) C dX3_told_65 rfl rfl (by omega) (by decide) rfl rfl ?_
          refine am_goto (q := 26) C dX3_told_68 (by decide) ?_
          obtain ⟨r1, rfl⟩ : ∃ r1, r = r1 + 1 := ⟨r - 1, by omega⟩
          exact ih u (q + 1) r1 _ hu (by omega) (by omega) hk
    have lp2 : ∀ (fuel : Nat) (u r : Nat) (acc : Int64), (u + r = n + 1) → (r) < fuel → (am_A G mX3_told X (am_rm 3 0 0) 90 [some (.ref 180), some (.int (iZ (n : Int))), some (.ref 174), some (.long (tdS (dD f n) zi zj n r u acc)), none, none, none, none, none, none, none] [] (215, kK, kR, I, J1) 0 0) → am_A G mX3_told X (am_rm 3 0 0) 14 [some (.ref 180), some (.int (iZ (n : Int))), some (.ref 174), some (.long acc), none, some (.long (chs zi u)), none, some (.int (iZ (u : Int))), none, none, none] [] (215, kK, kR, I, J1) 0 0 := by
      intro fuel
      induction fuel with
      | zero => intro u r acc hu hfu hk; exact absurd hfu (Nat.not_lt_zero _)
      | succ fuel ih =>
        intro u r acc hu hfu hk
        refine am_iload (q := 16) C dX3_told_14 rfl rfl ?_
        refine am_iload_n (q := 17) C dX3_told_16 rfl rfl ?_
        refine am_icmpZ_gt (q := 20) (tgt := 90) C dX3_told_17 (by decide) rfl ⟨by omega, by omega⟩ ⟨by omega, by omega⟩ (fun c2 => ?_) (fun c2 => ?_)
        · refine am_wkA (L1 := [some (.ref 180), some (.int (iZ (n : Int))), some (.ref 174), some (.long acc), none, none, none, none, none, none, none]) ⟨rfl, ⟨rfl, ⟨rfl, ⟨rfl, trivial⟩⟩⟩⟩ ?_
          obtain rfl : r = 0 := by omega
          exact hk
        · refine am_lconst (q := 21) (v := lN 1) C dX3_told_20 rfl rfl ?_
          refine am_lstore (q := 23) (L' := [some (.ref 180), some (.int (iZ (n : Int))), some (.ref 174), some (.long acc), none, some (.long (chs zi u)), none, some (.int (iZ (u : Int))), some (.long (lN 1)), none, none]) C dX3_told_21 rfl (by decide) rfl rfl ?_
          refine am_iconst (q := 24) (v := iZ 0) C dX3_told_23 rfl rfl ?_
          refine am_istore (q := 26) (L' := [some (.ref 180), some (.int (iZ (n : Int))), some (.ref 174), some (.long acc), none, some (.long (chs zi u)), none, some (.int (iZ (u : Int))), some (.long (lN 1)), none, some (.int (iZ 0))]) C dX3_told_24 rfl (by decide) rfl rfl ?_
          refine lp1 (n + 3) u 0 (n + 1 - u) acc (by omega) (by omega) (by omega) ?_
          refine am_lload (q := 73) C dX3_told_71 rfl rfl ?_
          refine am_aload_n (q := 74) C dX3_told_73 rfl rfl ?_
          refine am_getIe (q := 77) (v := (iZ zi)) C fb_X3_22 dX3_told_74 rfl rfl kk_180 (show 180 < 215 by decide) hi3 ?_
          refine am_iload (q := 79) C dX3_told_77 rfl rfl ?_
          refine am_callS (q := 82) (As := [.long (chs zi u), .int (iZ zi), .int (iZ (u : Int))]) (rest := []) C mb_X3_chooseNext st_X3_chooseNext ml_X3_93 dX3_told_79 rfl (sp_X3_chooseNext (v := chs zi u) (n := zi) rzi (k := u) (by omega)) rfl rfl ⟨by decide, by decide⟩ ⟨Nat.le_refl _, Nat.le_refl _⟩ (Nat.le_of_ble_eq_true rfl) (am_rle ?_)
          refine am_longE (y := chs zi (u + 1)) rfl ?_
          refine am_lstore (q := 84) (L' := [some (.ref 180), some (.int (iZ (n : Int))), some (.ref 174), some (.long (lpS (fun q => dD f n u q * chs zi u * chs zj q) (n + 1 - u) 0 acc)), none, some (.long (chs zi (u + 1))), none, some (.int (iZ (u : Int))), none, none, none]) C dX3_told_82 rfl (by decide) rfl rfl ?_
          refine am_iincZ (q := 87) (L' := [some (.ref 180), some (.int (iZ (n : Int))), some (.ref 174), some (.long (lpS (fun q => dD f n u q * chs zi u * chs zj q) (n + 1 - u) 0 acc)), none, some (.long (chs zi (u + 1))), none, some (.int (iZ ((u + 1 : Nat) : Int))), none, none, none]) C dX3_told_84 rfl rfl (by omega) (by decide) rfl rfl ?_
          refine am_goto (q := 14) C dX3_told_87 (by decide) ?_
          obtain ⟨r1, rfl⟩ : ∃ r1, r = r1 + 1 := ⟨r - 1, by omega⟩
          exact ih (u + 1) r1 _ (by omega) (by omega) hk
    refine am_lconst (q := 7) (v := lN 0) C dX3_told_6 rfl rfl ?_
    refine am_lstore_n (q := 8) (L' := [some (.ref 180), some (.int (iZ (n : Int))), some (.ref 174), some (.long (lN 0)), none, none, none, none, none, none, none]) C dX3_told_7 rfl (by decide) rfl rfl ?_
    refine am_lconst (q := 9) (v := lN 1) C dX3_told_8 rfl rfl ?_
    refine am_lstore (q := 11) (L' := [some (.ref 180), some (.int (iZ (n : Int))), some (.ref 174), some (.long (lN 0)), none, some (.long (lN 1)), none, none, none, none, none]) C dX3_told_9 rfl (by decide) rfl rfl ?_
    refine am_iconst (q := 12) (v := iZ 0) C dX3_told_11 rfl rfl ?_
    refine am_istore (q := 14) (L' := [some (.ref 180), some (.int (iZ (n : Int))), some (.ref 174), some (.long (lN 0)), none, some (.long (lN 1)), none, some (.int (iZ 0)), none, none, none]) C dX3_told_12 rfl (by decide) rfl rfl ?_
    refine lp2 (n + 3) 0 (n + 1) 0 (by omega) (by omega) ?_
    refine am_lload_n (q := 91) C dX3_told_90 rfl rfl ?_
    refine am_lret C T dX3_told_91 rfl (Nat.le_refl _) (Nat.le_refl _) ⟨_, rfl, ?_⟩
    exact ⟨rfl, _, rfl, hJ1⟩
  refine am_aload_n (q := 1) C dX3_told_0 rfl rfl ?_
  refine am_iload_n (q := 2) C dX3_told_1 rfl rfl ?_
  refine am_aload_n (q := 3) C dX3_told_2 rfl rfl ?_
  refine am_callV (q := 6) (As := [.int (iZ (n : Int)), .ref 174]) (rest := []) C mb_X3_readDifferences im_X3_readDifferences se_X3_readDifferences ml_X3_89 cb_3 kk_180 (show 180 < 215 by decide) dX3_told_3 rfl (sp_X3_readDifferences hn hK hi1 hi2 hi5 hi6 hi7 hi8 hv) rfl rfl ⟨by decide, by decide⟩ ⟨Nat.le_refl _, Nat.le_refl _⟩ (Nat.le_of_ble_eq_true rfl) (am_rv (fun w' hw' => ?_))
  obtain ⟨J1, rfl, hJ1, hD⟩ := hw'
  exact h9 J1 hJ1 hD
