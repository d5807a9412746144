variable {G : am_G} {I : Nat → Nat → Int32} {J : Nat → Nat → Int64}
/-- the rays of the first parts -/
def raysP (t : PT) : Nat → List (Nat × Nat)
  | 0 => []
  | k + 1 => insR (raysP t k) (pa t k) (pb t k)
theorem insR_len (l : List (Nat × Nat)) (a b : Nat) : (insR l a b).length ≤ l.length + 1 := by
  unfold insR
  split
  · omega
  · simp; omega
theorem raysP_len (t : PT) : ∀ k, (raysP t k).length ≤ k
  | 0 => Nat.le_refl _
  | k + 1 => Nat.le_trans (insR_len _ _ _) (by have := raysP_len t k; omega)
/-- how many of the first parts lie on a ray -/
def memP (t : PT) (l : List (Nat × Nat)) (r : Nat) : Nat → Nat
  | 0 => 0
  | k + 1 => memP t l r k + if fidx l (pa t k) (pb t k) = r then 1 else 0
theorem memP_le (t : PT) (l : List (Nat × Nat)) (r : Nat) : ∀ k, memP t l r k ≤ k
  | 0 => Nat.le_refl _
  | k + 1 => by
    have := memP_le t l r k
    show memP t l r k + (if _ then _ else _) ≤ _
    split <;> omega
theorem fidx_lt {l : List (Nat × Nat)} (h : l.length ≤ 6) (a b : Nat) : fidx l a b < 6 := by unfold fidx; split <;> omega
abbrev raysA (t : PT) : List (Nat × Nat) := raysP t (pm t)
/-- a fan that is spread over the parts -/
def fanAt (I : Nat → Nat → Int32) (t : PT) : Prop := atF I (raysA t) ∧ (∀ r, r < 6 → I 172 r = iZ (memP t (raysA t) r (pm t) : Int)) ∧ (∀ p, p < pm t → I 173 p = iZ (fidx (raysA t) (pa t p) (pb t p) : Int)) ∧ I 169 5 = iZ (perP t (pm t) : Int)
theorem fanAt.on {I I' : Nat → Nat → Int32} {t : PT} (h : fanAt I t) (hI : ∀ x, 169 ≤ x → x ≤ 173 → I' x = I x) : fanAt I' t := by
  unfold fanAt atF
  rw [hI 169 (by omega) (by omega), hI 170 (by omega) (by omega), hI 171 (by omega) (by omega), hI 172 (by omega) (by omega), hI 173 (by omega) (by omega)]
  exact h
theorem fan_end {t : PT} {I1 I2 : Nat → Nat → Int32} {p : Nat} (hpe : p = pm t) (hF : atF I1 (raysA t)) (hM : ∀ r, r < 6 → I1 172 r = iZ (memP t (raysA t) r p : Int)) (hR : ∀ q, q < p → I1 173 q = iZ (fidx (raysA t) (pa t q) (pb t q) : Int)) (hI2 : ∀ x, x ≠ 169 → I2 x = I1 x) (hJ2 : ∀ k, k ≠ 5 → I2 169 k = I1 169 k) (hp2 : I2 169 5 = iZ (perP t (pm t) : Int)) : fanAt I2 t := by
  subst hpe
  refine ⟨⟨by rw [hJ2 4 (by decide)]; exact hF.1, hF.2.1, fun k hk => ?_⟩, fun r hr => by rw [hI2 172 (by decide)]; exact hM r hr, fun q hq => by rw [hI2 173 (by decide)]; exact hR q hq, hp2⟩
  rw [hI2 170 (by decide), hI2 171 (by decide)]
  exact hF.2.2 k hk
theorem atF.on {I I' : Nat → Nat → Int32} {l : List (Nat × Nat)} (h : atF I l) (hI : ∀ x, x = 169 ∨ x = 170 ∨ x = 171 → I' x = I x) : atF I' l := by
  unfold atF
  rw [hI 169 (by omega), hI 170 (by omega), hI 171 (by omega)]
  exact h
set_option maxRecDepth 4000 in
theorem sp_X1_spread {t : PT} (hA : atP 1 I J t) (hK : okP t) : am_S G mX1_spread 4 0 0 [.ref 169, .ref 1] (215, kK, kR, I, J) (am_qv (fun w' => ∃ I' : Nat → Nat → Int32, w' = (215, kK, kR, I', J) ∧ fanAt I' t ∧ ∀ x, x < 169 ∨ 173 < x → I' x = I x)) := by
  have hm := hK.1
  have hA4 := hA.1
  refine am_spec (plainFor_of_name (by decide +kernel)) (Nat.le_of_ble_eq_true rfl) (L := [some (.ref 169), some (.ref 1), none, none]) rfl (fun X C T => ?_)
  have lp2 : ∀ (fuel : Nat) (p : Nat) (I1 : Nat → Nat → Int32), p ≤ pm t → (∀ x, x < 169 ∨ 173 < x → I1 x = I x) → atF I1 (raysA t) → (∀ r, r < 6 → I1 172 r = iZ (memP t (raysA t) r p : Int)) → (∀ q, q < p → I1 173 q = iZ (fidx (raysA t) (pa t q) (pb t q) : Int)) → pm t - p < fuel → am_A G mX1_spread X (am_rm 4 0 0) 53 [some (.ref 169), some (.ref 1), some (.int (iZ (p : Int))), none] [] (215, kK, kR, I1, J) 0 0 ∧ ∀ z : Int, am_A G mX1_spread X (am_rm 4 0 0) 53 [some (.ref 169), some (.ref 1), some (.int (iZ (p : Int))), some (.int (iZ z))] [] (215, kK, kR, I1, J) 0 0 := by
    intro fuel
    induction fuel with
    | zero => intro p I1 hp hI hF hM hR hf; exact absurd hf (Nat.not_lt_zero _)
    | succ fuel ih =>
      intro p I1 hp hI hF hM hR hf
      constructor
      · refine am_iload_n (q := 54) C dX1_spread_53 rfl rfl ?_
        refine am_aload_n (q := 55) C dX1_spread_54 rfl rfl ?_
        refine am_getIe (q := 58) (v := (iZ (pm t : Int))) C fb_X1_41 dX1_spread_55 rfl rfl kk_1 (show 1 < 215 by decide) (by rw [hI 1 (by omega)]; exact hA4) ?_
        refine am_icmpZ_ge (q := 61) (tgt := 117) C dX1_spread_58 (by decide) rfl ⟨by omega, by omega⟩ ⟨by omega, by omega⟩ (fun c1 => ?_) (fun c1 => ?_)
        · refine am_aload_n (q := 118) C dX1_spread_117 rfl rfl ?_
          refine am_aload_n (q := 119) C dX1_spread_118 rfl rfl ?_
          refine am_callV (q := 122) (As := [.ref 1]) (rest := []) C mb_X1_findPeriod im_X1_findPeriod se_X1_findPeriod ml_X1_61 cb_1 kk_169 (show 169 < 215 by decide) dX1_spread_119 rfl (sp_X1_findPeriod (t := t) (hA.on (fun a _ _ => hI a (by omega)) rfl) hK) rfl rfl ⟨by decide, by decide⟩ ⟨Nat.le_refl _, Nat.le_refl _⟩ (Nat.le_of_ble_eq_true rfl) (am_rv (fun w' hw' => ?_))
          obtain ⟨I2, rfl, hI2, hJ2, hp2⟩ := hw'
          refine am_vret C T dX1_spread_122 rfl (Nat.le_refl _) (Nat.le_refl _) ⟨rfl, ?_⟩
          exact ⟨_, rfl, fan_end (show p = pm t by omega) hF hM hR hI2 hJ2 hp2, fun x hx => by rw [hI2 x (by omega)]; exact hI x hx⟩
        · refine am_iload_n (q := 62) C dX1_spread_61 rfl rfl ?_
          refine am_bipush (q := 64) (v := iZ 6) C dX1_spread_62 rfl rfl ?_
          refine am_icmpZ_ge (q := 67) (tgt := 117) C dX1_spread_64 (by decide) rfl ⟨by omega, by omega⟩ ⟨by omega, by omega⟩ (fun c2 => ?_) (fun c2 => ?_)
          · refine am_aload_n (q := 118) C dX1_spread_117 rfl rfl ?_
            refine am_aload_n (q := 119) C dX1_spread_118 rfl rfl ?_
            refine am_callV (q := 122) (As := [.ref 1]) (rest := []) C mb_X1_findPeriod im_X1_findPeriod se_X1_findPeriod ml_X1_61 cb_1 kk_169 (show 169 < 215 by decide) dX1_spread_119 rfl (sp_X1_findPeriod (t := t) (hA.on (fun a _ _ => hI a (by omega)) rfl) hK) rfl rfl ⟨by decide, by decide⟩ ⟨Nat.le_refl _, Nat.le_refl _⟩ (Nat.le_of_ble_eq_true rfl) (am_rv (fun w' hw' => ?_))
            obtain ⟨I2, rfl, hI2, hJ2, hp2⟩ := hw'
            refine am_vret C T dX1_spread_122 rfl (Nat.le_refl _) (Nat.le_refl _) ⟨rfl, ?_⟩
            exact ⟨_, rfl, fan_end (show p = pm t by omega) hF hM hR hI2 hJ2 hp2, fun x hx => by rw [hI2 x (by omega)]; exact hI x hx⟩
          · refine am_aload_n (q := 68) C dX1_spread_67 rfl rfl ?_
            refine am_aload_n (q := 69) C dX1_spread_68 rfl rfl ?_
            refine am_getR (q := 72) C fb_X1_46 dX1_spread_69 rfl rfl kk_1 (show 1 < 215 by decide) kr_1_0 ?_
            refine am_iload_n (q := 73) C dX1_spread_72 rfl rfl ?_
            refine am_ialoadZ (q := 74) p C dX1_spread_73 rfl kk_2 (show 2 < 215 by decide) rfl (by omega) (by decide) ?_
            refine am_intE (y := (iZ (pa t p : Int))) (by rw [hI 2 (by omega)]; exact (hA.2 p (by omega)).1) ?_
            refine am_aload_n (q := 75) C dX1_spread_74 rfl rfl ?_
            refine am_getR (q := 78) C fb_X1_47 dX1_spread_75 rfl rfl kk_1 (show 1 < 215 by decide) kr_1_1 ?_
            refine am_iload_n (q := 79) C dX1_spread_78 rfl rfl ?_
            refine am_ialoadZ (q := 80) p C dX1_spread_79 rfl kk_3 (show 3 < 215 by decide) rfl (by omega) (by decide) ?_
            refine am_intE (y := (iZ (pb t p : Int))) (by rw [hI 3 (by omega)]; exact (hA.2 p (by omega)).2.1) ?_
            refine am_callV (q := 83) (As := [.int (iZ (pa t p : Int)), .int (iZ (pb t p : Int))]) (rest := []) C mb_X1_rayTowards im_X1_rayTowards se_X1_rayTowards ml_X1_58 cb_1 kk_169 (show 169 < 215 by decide) dX1_spread_80 rfl (sp_X1_rayTowards hF (hK.2 p (by omega)).1 (hK.2 p (by omega)).2.1) rfl rfl ⟨by decide, by decide⟩ ⟨Nat.le_refl _, Nat.le_refl _⟩ (Nat.le_of_ble_eq_true rfl) (am_rie ?_)
            refine am_istore_n (q := 84) (L' := [some (.ref 169), some (.ref 1), some (.int (iZ (p : Int))), some (.int (iZ (fidx (raysA t) (pa t p) (pb t p) : Int)))]) C dX1_spread_83 rfl (by decide) rfl rfl ?_
            refine am_aload_n (q := 85) C dX1_spread_84 rfl rfl ?_
            refine am_getR (q := 88) C fb_X1_21 dX1_spread_85 rfl rfl kk_169 (show 169 < 215 by decide) kr_169_3 ?_
            refine am_iload_n (q := 89) C dX1_spread_88 rfl rfl ?_
            refine am_iload_n (q := 90) C dX1_spread_89 rfl rfl ?_
            refine am_iastoreZ (q := 91) p C dX1_spread_90 rfl kk_173 (show 173 < 215 by decide) rfl (by omega) (by decide) ?_
            refine am_iload_n (q := 92) C dX1_spread_91 rfl rfl ?_
            refine am_ifZ_lt (q := 95) (tgt := 111) C dX1_spread_92 (by decide) rfl ⟨by have := fidx_lt hF.2.1 (pa t p) (pb t p); omega, by have := fidx_lt hF.2.1 (pa t p) (pb t p); omega⟩ (fun c3 => ?_) (fun c3 => ?_)
            · have := fidx_lt hF.2.1 (pa t p) (pb t p); omega
            · refine am_iload_n (q := 96) C dX1_spread_95 rfl rfl ?_
              refine am_bipush (q := 98) (v := iZ 6) C dX1_spread_96 rfl rfl ?_
              refine am_icmpZ_ge (q := 101) (tgt := 111) C dX1_spread_98 (by decide) rfl ⟨by have := fidx_lt hF.2.1 (pa t p) (pb t p); omega, by have := fidx_lt hF.2.1 (pa t p) (pb t p); omega⟩ ⟨by omega, by omega⟩ (fun c4 => ?_) (fun c4 => ?_)
              · have := fidx_lt hF.2.1 (pa t p) (pb t p); omega
              · refine am_aload_n (q := 102) C dX1_spread_101 rfl rfl ?_
                refine am_getR (q := 105) C fb_X1_18 dX1_spread_102 rfl rfl kk_169 (show 169 < 215 by decide) kr_169_2 ?_
                refine am_iload_n (q := 106) C dX1_spread_105 rfl rfl ?_
                refine am_dup2 (q := 107) C dX1_spread_106 rfl rfl rfl ?_
                refine am_ialoadZ (q := 108) (fidx (raysA t) (pa t p) (pb t p)) C dX1_spread_107 rfl kk_172 (show 172 < 215 by decide) rfl (fidx_lt hF.2.1 _ _) (by decide) ?_
                refine am_intE (y := (iZ (memP t (raysA t) (fidx (raysA t) (pa t p) (pb t p)) p : Int))) (by rw [am_up_row _ _ _ _ (by omega)]; exact hM (fidx (raysA t) (pa t p) (pb t p)) (fidx_lt hF.2.1 _ _)) ?_
                refine am_iconst (q := 109) (v := iZ 1) C dX1_spread_108 rfl rfl ?_
                refine am_iaddZ (q := 110) C dX1_spread_109 rfl ?_
                refine am_iastoreZ (q := 111) (fidx (raysA t) (pa t p) (pb t p)) C dX1_spread_110 rfl kk_172 (show 172 < 215 by decide) rfl (fidx_lt hF.2.1 _ _) (by decide) ?_
                refine am_iincZ (q := 114) (L' := [some (.ref 169), some (.ref 1), some (.int (iZ ((p + 1 : Nat) : Int))), some (.int (iZ (fidx (raysA t) (pa t p) (pb t p) : Int)))]) C dX1_spread_111 rfl rfl (by omega) (by decide) rfl rfl ?_
                refine am_goto (q := 53) C dX1_spread_114 (by decide) ?_
                exact (ih (p + 1) _ (by omega) (fun x hx => by rw [am_up_row _ _ _ _ (by omega), am_up_row _ _ _ _ (by omega)]; exact hI x hx) (hF.on (fun x hx => by rw [am_up_row _ _ _ _ (by omega), am_up_row _ _ _ _ (by omega)])) (fun r hr => by
                  by_cases e : r = fidx (raysA t) (pa t p) (pb t p)
                  · subst e
                    rw [am_up_eq]
                    exact congrArg iZ (by show _ = ((memP t _ _ p + (if _ then _ else _) : Nat) : Int); rw [if_pos rfl]; rfl)
                  · rw [am_up_ne _ _ _ _ (Or.inr e), am_up_row _ _ _ _ (by omega), hM r hr]
                    exact congrArg iZ (by show _ = ((memP t _ _ p + (if _ then _ else _) : Nat) : Int); rw [if_neg (fun z => e z.symm)]; rfl)) (fun q hq => by
                  rw [am_up_row _ _ _ _ (by omega)]
                  by_cases e : q = p
                  · rw [e, am_up_eq]
                  · rw [am_up_ne _ _ _ _ (Or.inr e)]; exact hR q (by omega)) (by omega)).2 _
      · intro z
        refine am_iload_n (q := 54) C dX1_spread_53 rfl rfl ?_
        refine am_aload_n (q := 55) C dX1_spread_54 rfl rfl ?_
        refine am_getIe (q := 58) (v := (iZ (pm t : Int))) C fb_X1_41 dX1_spread_55 rfl rfl kk_1 (show 1 < 215 by decide) (by rw [hI 1 (by omega)]; exact hA4) ?_
        refine am_icmpZ_ge (q := 61) (tgt := 117) C dX1_spread_58 (by decide) rfl ⟨by omega, by omega⟩ ⟨by omega, by omega⟩ (fun c5 => ?_) (fun c5 => ?_)
        · refine am_aload_n (q := 118) C dX1_spread_117 rfl rfl ?_
          refine am_aload_n (q := 119) C dX1_spread_118 rfl rfl ?_
          refine am_callV (q := 122) (As := [.ref 1]) (rest := []) C mb_X1_findPeriod im_X1_findPeriod se_X1_findPeriod ml_X1_61 cb_1 kk_169 (show 169 < 215 by decide) dX1_spread_119 rfl (sp_X1_findPeriod (t := t) (hA.on (fun a _ _ => hI a (by omega)) rfl) hK) rfl rfl ⟨by decide, by decide⟩ ⟨Nat.le_refl _, Nat.le_refl _⟩ (Nat.le_of_ble_eq_true rfl) (am_rv (fun w' hw' => ?_))
          obtain ⟨I2, rfl, hI2, hJ2, hp2⟩ := hw'
          refine am_vret C T dX1_spread_122 rfl (Nat.le_refl _) (Nat.le_refl _) ⟨rfl, ?_⟩
          exact ⟨_, rfl, fan_end (show p = pm t by omega) hF hM hR hI2 hJ2 hp2, fun x hx => by rw [hI2 x (by omega)]; exact hI x hx⟩
        · refine am_iload_n (q := 62) C dX1_spread_61 rfl rfl ?_
          refine am_bipush (q := 64) (v := iZ 6) C dX1_spread_62 rfl rfl ?_
          refine am_icmpZ_ge (q := 67) (tgt := 117) C dX1_spread_64 (by decide) rfl ⟨by omega, by omega⟩ ⟨by omega, by omega⟩ (fun c6 => ?_) (fun c6 => ?_)
          · refine am_aload_n (q := 118) C dX1_spread_117 rfl rfl ?_
            refine am_aload_n (q := 119) C dX1_spread_118 rfl rfl ?_
            refine am_callV (q := 122) (As := [.ref 1]) (rest := []) C mb_X1_findPeriod im_X1_findPeriod se_X1_findPeriod ml_X1_61 cb_1 kk_169 (show 169 < 215 by decide) dX1_spread_119 rfl (sp_X1_findPeriod (t := t) (hA.on (fun a _ _ => hI a (by omega)) rfl) hK) rfl rfl ⟨by decide, by decide⟩ ⟨Nat.le_refl _, Nat.le_refl _⟩ (Nat.le_of_ble_eq_true rfl) (am_rv (fun w' hw' => ?_))
            obtain ⟨I2, rfl, hI2, hJ2, hp2⟩ := hw'
            refine am_vret C T dX1_spread_122 rfl (Nat.le_refl _) (Nat.le_refl _) ⟨rfl, ?_⟩
            exact ⟨_, rfl, fan_end (show p = pm t by omega) hF hM hR hI2 hJ2 hp2, fun x hx => by rw [hI2 x (by omega)]; exact hI x hx⟩
          · refine am_aload_n (q := 68) C dX1_spread_67 rfl rfl ?_
            refine am_aload_n (q := 69) C dX1_spread_68 rfl rfl ?_
            refine am_getR (q := 72) C fb_X1_46 dX1_spread_69 rfl rfl kk_1 (show 1 < 215 by decide) kr_1_0 ?_
            refine am_iload_n (q := 73) C dX1_spread_72 rfl rfl ?_
            refine am_ialoadZ (q := 74) p C dX1_spread_73 rfl kk_2 (show 2 < 215 by decide) rfl (by omega) (by decide) ?_
            refine am_intE (y := (iZ (pa t p : Int))) (by rw [hI 2 (by omega)]; exact (hA.2 p (by omega)).1) ?_
            refine am_aload_n (q := 75) C dX1_spread_74 rfl rfl ?_
            refine am_getR (q := 78) C fb_X1_47 dX1_spread_75 rfl rfl kk_1 (show 1 < 215 by decide) kr_1_1 ?_
            refine am_iload_n (q := 79) C dX1_spread_78 rfl rfl ?_
            refine am_ialoadZ (q := 80) p C dX1_spread_79 rfl kk_3 (show 3 < 215 by decide) rfl (by omega) (by decide) ?_
            refine am_intE (y := (iZ (pb t p : Int))) (by rw [hI 3 (by omega)]; exact (hA.2 p (by omega)).2.1) ?_
            refine am_callV (q := 83) (As := [.int (iZ (pa t p : Int)), .int (iZ (pb t p : Int))]) (rest := []) C mb_X1_rayTowards im_X1_rayTowards se_X1_rayTowards ml_X1_58 cb_1 kk_169 (show 169 < 215 by decide) dX1_spread_80 rfl (sp_X1_rayTowards hF (hK.2 p (by omega)).1 (hK.2 p (by omega)).2.1) rfl rfl ⟨by decide, by decide⟩ ⟨Nat.le_refl _, Nat.le_refl _⟩ (Nat.le_of_ble_eq_true rfl) (am_rie ?_)
            refine am_istore_n (q := 84) (L' := [some (.ref 169), some (.ref 1), some (.int (iZ (p : Int))), some (.int (iZ (fidx (raysA t) (pa t p) (pb t p) : Int)))]) C dX1_spread_83 rfl (by decide) rfl rfl ?_
            refine am_aload_n (q := 85) C dX1_spread_84 rfl rfl ?_
            refine am_getR (q := 88) C fb_X1_21 dX1_spread_85 rfl rfl kk_169 (show 169 < 215 by decide) kr_169_3 ?_
            refine am_iload_n (q := 89) C dX1_spread_88 rfl rfl ?_
            refine am_iload_n (q := 90) C dX1_spread_89 rfl rfl ?_
            refine am_iastoreZ (q := 91) p C dX1_spread_90 rfl kk_173 (show 173 < 215 by decide) rfl (by omega) (by decide) ?_
            refine am_iload_n (q := 92) C dX1_spread_91 rfl rfl ?_
            refine am_ifZ_lt (q := 95) (tgt := 111) C dX1_spread_92 (by decide) rfl ⟨by have := fidx_lt hF.2.1 (pa t p) (pb t p); omega, by have := fidx_lt hF.2.1 (pa t p) (pb t p); omega⟩ (fun c7 => ?_) (fun c7 => ?_)
            · have := fidx_lt hF.2.1 (pa t p) (pb t p); omega
            · refine am_iload_n (q := 96) C dX1_spread_95 rfl rfl ?_
              refine am_bipush (q := 98) (v := iZ 6) C dX1_spread_96 rfl rfl ?_
              refine am_icmpZ_ge (q := 101) (tgt := 111) C dX1_spread_98 (by decide) rfl ⟨by have := fidx_lt hF.2.1 (pa t p) (pb t p); omega, by have := fidx_lt hF.2.1 (pa t p) (pb t p); omega⟩ ⟨by omega, by omega⟩ (fun c8 => ?_) (fun c8 => ?_)
              · have := fidx_lt hF.2.1 (pa t p) (pb t p); omega
              · refine am_aload_n (q := 102) C dX1_spread_101 rfl rfl ?_
                refine am_getR (q := 105) C fb_X1_18 dX1_spread_102 rfl rfl kk_169 (show 169 < 215 by decide) kr_169_2 ?_
                refine am_iload_n (q := 106) C dX1_spread_105 rfl rfl ?_
                refine am_dup2 (q := 107) C dX1_spread_106 rfl rfl rfl ?_
                refine am_ialoadZ (q := 108) (fidx (raysA t) (pa t p) (pb t p)) C dX1_spread_107 rfl kk_172 (show 172 < 215 by decide) rfl (fidx_lt hF.2.1 _ _) (by decide) ?_
                refine am_intE (y := (iZ (memP t (raysA t) (fidx (raysA t) (pa t p) (pb t p)) p : Int))) (by rw [am_up_row _ _ _ _ (by omega)]; exact hM (fidx (raysA t) (pa t p) (pb t p)) (fidx_lt hF.2.1 _ _)) ?_
                refine am_iconst (q := 109) (v := iZ 1) C dX1_spread_108 rfl rfl ?_
                refine am_iaddZ (q := 110) C dX1_spread_109 rfl ?_
                refine am_iastoreZ (q := 111) (fidx (raysA t) (pa t p) (pb t p)) C dX1_spread_110 rfl kk_172 (show 172 < 215 by decide) rfl (fidx_lt hF.2.1 _ _) (by decide) ?_
                refine am_iincZ (q := 114) (L' := [some (.ref 169), some (.ref 1), some (.int (iZ ((p + 1 : Nat) : Int))), some (.int (iZ (fidx (raysA t) (pa t p) (pb t p) : Int)))]) C dX1_spread_111 rfl rfl (by omega) (by decide) rfl rfl ?_
                refine am_goto (q := 53) C dX1_spread_114 (by decide) ?_
                exact (ih (p + 1) _ (by omega) (fun x hx => by rw [am_up_row _ _ _ _ (by omega), am_up_row _ _ _ _ (by omega)]; exact hI x hx) (hF.on (fun x hx => by rw [am_up_row _ _ _ _ (by omega), am_up_row _ _ _ _ (by omega)])) (fun r hr => by
                  by_cases e : r = fidx (raysA t) (pa t p) (pb t p)
                  · subst e
                    rw [am_up_eq]
                    exact congrArg iZ (by show _ = ((memP t _ _ p + (if _ then _ else _) : Nat) : Int); rw [if_pos rfl]; rfl)
                  · rw [am_up_ne _ _ _ _ (Or.inr e), am_up_row _ _ _ _ (by omega), hM r hr]
                    exact congrArg iZ (by show _ = ((memP t _ _ p + (if _ then _ else _) : Nat) : Int); rw [if_neg (fun z => e z.symm)]; rfl)) (fun q hq => by
                  rw [am_up_row _ _ _ _ (by omega)]
                  by_cases e : q = p
                  · rw [e, am_up_eq]
                  · rw [am_up_ne _ _ _ _ (Or.inr e)]; exact hR q (by omega)) (by omega)).2 _
  have lp1 : ∀ (fuel : Nat) (p : Nat) (I1 : Nat → Nat → Int32), (p ≤ pm t) → (∀ x, x < 169 ∨ 173 < x → I1 x = I x) → (atF I1 (raysP t p)) → (pm t - p) < fuel → am_A G mX1_spread X (am_rm 4 0 0) 7 [some (.ref 169), some (.ref 1), some (.int (iZ (p : Int))), none] [] (215, kK, kR, I1, J) 0 0 := by
    intro fuel
    induction fuel with
    | zero => intro p I1 hp hI hF hf; exact absurd hf (Nat.not_lt_zero _)
    | succ fuel ih =>
      intro p I1 hp hI hF hf
      refine am_iload_n (q := 8) C dX1_spread_7 rfl rfl ?_
      refine am_aload_n (q := 9) C dX1_spread_8 rfl rfl ?_
      refine am_getIe (q := 12) (v := (iZ (pm t : Int))) C fb_X1_41 dX1_spread_9 rfl rfl kk_1 (show 1 < 215 by decide) (by rw [hI 1 (by omega)]; exact hA4) ?_
      refine am_icmpZ_ge (q := 15) (tgt := 43) C dX1_spread_12 (by decide) rfl ⟨by omega, by omega⟩ ⟨by omega, by omega⟩ (fun c9 => ?_) (fun c9 => ?_)
      · have hpe : p = pm t := by omega
        subst hpe
        refine am_aload_n (q := 44) C dX1_spread_43 rfl rfl ?_
        refine am_getR (q := 47) C fb_X1_18 dX1_spread_44 rfl rfl kk_169 (show 169 < 215 by decide) kr_169_2 ?_
        refine am_iconst (q := 48) (v := iZ 0) C dX1_spread_47 rfl rfl ?_
        refine am_callS (q := 51) (As := [.ref 172, .int (iZ 0)]) (rest := []) C mb_J7_fill_53178 st_J7_fill_53178 ml_X1_52 dX1_spread_48 rfl (sp_fillI (h := 172) (len := 6) kk_172 (by decide) (by decide) (v := iZ 0)) rfl rfl ⟨by decide, by decide⟩ ⟨Nat.le_refl _, Nat.le_refl _⟩ (Nat.le_of_ble_eq_true rfl) (am_rv (fun w' hw' => ?_))
        obtain ⟨I2, rfl, hI2, hv2⟩ := hw'
        refine am_iconst (q := 52) (v := iZ 0) C dX1_spread_51 rfl rfl ?_
        refine am_istore_n (q := 53) (L' := [some (.ref 169), some (.ref 1), some (.int (iZ 0)), none]) C dX1_spread_52 rfl (by decide) rfl rfl ?_
        exact (lp2 (pm t + 1) 0 _ (by omega) (fun x hx => by rw [hI2 x (by omega)]; exact hI x hx) (hF.on (fun x hx => hI2 x (by omega))) (fun r hr => hv2 r hr) (fun q hq => absurd hq (Nat.not_lt_zero _)) (by omega)).1
      · refine am_iload_n (q := 16) C dX1_spread_15 rfl rfl ?_
        refine am_bipush (q := 18) (v := iZ 6) C dX1_spread_16 rfl rfl ?_
        refine am_icmpZ_ge (q := 21) (tgt := 43) C dX1_spread_18 (by decide) rfl ⟨by omega, by omega⟩ ⟨by omega, by omega⟩ (fun c10 => ?_) (fun c10 => ?_)
        · have hpe : p = pm t := by omega
          subst hpe
          refine am_aload_n (q := 44) C dX1_spread_43 rfl rfl ?_
          refine am_getR (q := 47) C fb_X1_18 dX1_spread_44 rfl rfl kk_169 (show 169 < 215 by decide) kr_169_2 ?_
          refine am_iconst (q := 48) (v := iZ 0) C dX1_spread_47 rfl rfl ?_
          refine am_callS (q := 51) (As := [.ref 172, .int (iZ 0)]) (rest := []) C mb_J7_fill_53178 st_J7_fill_53178 ml_X1_52 dX1_spread_48 rfl (sp_fillI (h := 172) (len := 6) kk_172 (by decide) (by decide) (v := iZ 0)) rfl rfl ⟨by decide, by decide⟩ ⟨Nat.le_refl _, Nat.le_refl _⟩ (Nat.le_of_ble_eq_true rfl) (am_rv (fun w' hw' => ?_))
          obtain ⟨I2, rfl, hI2, hv2⟩ := hw'
          refine am_iconst (q := 52) (v := iZ 0) C dX1_spread_51 rfl rfl ?_
          refine am_istore_n (q := 53) (L' := [some (.ref 169), some (.ref 1), some (.int (iZ 0)), none]) C dX1_spread_52 rfl (by decide) rfl rfl ?_
          exact (lp2 (pm t + 1) 0 _ (by omega) (fun x hx => by rw [hI2 x (by omega)]; exact hI x hx) (hF.on (fun x hx => hI2 x (by omega))) (fun r hr => hv2 r hr) (fun q hq => absurd hq (Nat.not_lt_zero _)) (by omega)).1
        · refine am_aload_n (q := 22) C dX1_spread_21 rfl rfl ?_
          refine am_aload_n (q := 23) C dX1_spread_22 rfl rfl ?_
          refine am_getR (q := 26) C fb_X1_46 dX1_spread_23 rfl rfl kk_1 (show 1 < 215 by decide) kr_1_0 ?_
          refine am_iload_n (q := 27) C dX1_spread_26 rfl rfl ?_
          refine am_ialoadZ (q := 28) p C dX1_spread_27 rfl kk_2 (show 2 < 215 by decide) rfl (by omega) (by decide) ?_
          refine am_intE (y := (iZ (pa t p : Int))) (by rw [hI 2 (by omega)]; exact (hA.2 p (by omega)).1) ?_
          refine am_aload_n (q := 29) C dX1_spread_28 rfl rfl ?_
          refine am_getR (q := 32) C fb_X1_47 dX1_spread_29 rfl rfl kk_1 (show 1 < 215 by decide) kr_1_1 ?_
          refine am_iload_n (q := 33) C dX1_spread_32 rfl rfl ?_
          refine am_ialoadZ (q := 34) p C dX1_spread_33 rfl kk_3 (show 3 < 215 by decide) rfl (by omega) (by decide) ?_
          refine am_intE (y := (iZ (pb t p : Int))) (by rw [hI 3 (by omega)]; exact (hA.2 p (by omega)).2.1) ?_
          refine am_callV (q := 37) (As := [.int (iZ (pa t p : Int)), .int (iZ (pb t p : Int))]) (rest := []) C mb_X1_addRay im_X1_addRay se_X1_addRay ml_X1_48 cb_1 kk_169 (show 169 < 215 by decide) dX1_spread_34 rfl (sp_X1_addRay hF (by have := raysP_len t p; omega) (hK.2 p (by omega)).1 (hK.2 p (by omega)).2.1 (hK.2 p (by omega)).2.2.1) rfl rfl ⟨by decide, by decide⟩ ⟨Nat.le_refl _, Nat.le_refl _⟩ (Nat.le_of_ble_eq_true rfl) (am_rv (fun w' hw' => ?_))
          obtain ⟨I2, rfl, hF2, hI2, hJ2⟩ := hw'
          refine am_iincZ (q := 40) (L' := [some (.ref 169), some (.ref 1), some (.int (iZ ((p + 1 : Nat) : Int))), none]) C dX1_spread_37 rfl rfl (by omega) (by decide) rfl rfl ?_
          refine am_goto (q := 7) C dX1_spread_40 (by decide) ?_
          exact ih (p + 1) _ (by omega) (fun x hx => by rw [hI2 x (by omega) (by omega) (by omega)]; exact hI x hx) hF2 (by omega)
  refine am_aload_n (q := 1) C dX1_spread_0 rfl rfl ?_
  refine am_iconst (q := 2) (v := iZ 0) C dX1_spread_1 rfl rfl ?_
  refine am_putI (q := 5) C fw_X1_24 dX1_spread_2 rfl rfl kk_169 (show 169 < 215 by decide) ?_
  refine am_iconst (q := 6) (v := iZ 0) C dX1_spread_5 rfl rfl ?_
  refine am_istore_n (q := 7) (L' := [some (.ref 169), some (.ref 1), some (.int (iZ 0)), none]) C dX1_spread_6 rfl (by decide) rfl rfl ?_
  exact lp1 (pm t + 1) 0 _ (by omega) (fun x hx => am_up_row _ _ _ _ (by omega)) ⟨am_up_eq _ _ _ _, Nat.zero_le _, fun k hk => absurd hk (Nat.not_lt_zero _)⟩ (by omega)
