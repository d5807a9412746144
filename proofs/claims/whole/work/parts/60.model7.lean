variable {G : am_G} {I : Nat → Nat → Int32} {J : Nat → Nat → Int64}
/-- the Model's table of free ways -/
def tabG (J : Nat → Nat → Int64) (cx cy : Nat) (f : Nat → Nat → Int64) : Prop := ∀ x y : Nat, x ≤ cx → y ≤ cy → J 208 (150 * y + x) = f x y
theorem frS_208 {J' : Nat → Nat → Int64} (h : ∀ x, x ≠ 208 → J' x = J x) : frS I J I J' := ⟨fun _ _ => rfl, fun x h1 h2 => ⟨rfl, h x (by omega)⟩⟩
theorem frS_up {k : Nat} {v : Int32} (hk : 21 < k) : frS I J (am_up I 191 k v) J := ⟨fun j hj => am_up_ne _ _ _ _ (Or.inr (by omega)), fun x h1 h2 => ⟨am_up_row _ _ _ _ h1, rfl⟩⟩
set_option maxRecDepth 4000 in
theorem sp_X11_addsPart {cx cy : Nat} (hcx : cx ≤ 149) (hcy : cy ≤ 149) (hX : I 191 27 = iZ (cx : Int)) (hY : I 191 28 = iZ (cy : Int)) {f : Nat → Nat → Int64} (hT : tabG J cx cy f) {a b : Nat} (ha : a ≤ 4) (hb : b ≤ 4) (hab : 1 ≤ a + b) : am_S G mX11_addsPart 1 0 0 [.ref 191, .int (iZ (a : Int)), .int (iZ (b : Int))] (215, kK, kR, I, J) (am_qv (fun w' => ∃ J' : Nat → Nat → Int64, w' = (215, kK, kR, I, J') ∧ (∀ h, h ≠ 208 → J' h = J h) ∧ tabG J' cx cy (geoF f a b))) := by
  refine am_spec (plainFor_of_name (by decide +kernel)) (Nat.le_of_ble_eq_true rfl) (L := [some (.ref 191), some (.int (iZ (a : Int))), some (.int (iZ (b : Int))), none, none]) rfl (fun X C T => ?_)
  have i1 : ∀ (fuel : Nat) (y x : Nat) (J1 : Nat → Nat → Int64), (b ≤ y) → (y ≤ cy) → (a ≤ x) → (x ≤ cx + 1 + a) → (∀ h, h ≠ 208 → J1 h = J h) → (∀ x1 y1 : Nat, x1 ≤ cx → y1 ≤ cy → J1 208 (150 * y1 + x1) = if y1 < y ∨ y1 = y ∧ x1 < x then geoF f a b x1 y1 else f x1 y1) → (155 - x) < fuel → (∀ (J2 : Nat → Nat → Int64), (∀ h, h ≠ 208 → J2 h = J h) → (∀ x1 y1 : Nat, x1 ≤ cx → y1 ≤ cy → J2 208 (150 * y1 + x1) = if y1 < y + 1 then geoF f a b x1 y1 else f x1 y1) → am_A G mX11_addsPart X (am_rm 1 0 0) 61 [some (.ref 191), some (.int (iZ (a : Int))), some (.int (iZ (b : Int))), some (.int (iZ (y : Int))), none] [] (215, kK, kR, I, J2) 0 0) → am_A G mX11_addsPart X (am_rm 1 0 0) 13 [some (.ref 191), some (.int (iZ (a : Int))), some (.int (iZ (b : Int))), some (.int (iZ (y : Int))), some (.int (iZ (x : Int)))] [] (215, kK, kR, I, J1) 0 0 := by
    intro fuel
    induction fuel with
    | zero => intro y x J1 hy1 hy hx1 hx hJ hz hfu hk9; exact absurd hfu (Nat.not_lt_zero _)
    | succ fuel ih =>
      intro y x J1 hy1 hy hx1 hx hJ hz hfu hk9
      refine am_iload (q := 15) C dX11_addsPart_13 rfl rfl ?_
      refine am_aload_n (q := 16) C dX11_addsPart_15 rfl rfl ?_
      refine am_getIe (q := 19) (v := (iZ (cx : Int))) C fb_X11_186 dX11_addsPart_16 rfl rfl kk_191 (show 191 < 215 by decide) hX ?_
      refine am_icmpZ_gt (q := 22) (tgt := 61) C dX11_addsPart_19 (by decide) rfl ⟨by omega, by omega⟩ ⟨by omega, by omega⟩ (fun c1 => ?_) (fun c1 => ?_)
      · refine am_wkA (L1 := [some (.ref 191), some (.int (iZ (a : Int))), some (.int (iZ (b : Int))), some (.int (iZ (y : Int))), none]) ⟨rfl, ⟨rfl, ⟨rfl, ⟨rfl, trivial⟩⟩⟩⟩ ?_
        refine hk9 _ hJ (fun x1 y1 g2 g3 => ?_)
        rw [hz x1 y1 g2 g3]
        by_cases e4 : y1 < y ∨ y1 = y ∧ x1 < x
        · rw [if_pos e4, if_pos (by omega)]
        · rw [if_neg e4, if_neg (by omega)]
      · refine am_aload_n (q := 23) C dX11_addsPart_22 rfl rfl ?_
        refine am_getR (q := 26) C fb_X11_65 dX11_addsPart_23 rfl rfl kk_191 (show 191 < 215 by decide) kr_191_26 ?_
        refine am_sipush (q := 29) (v := iZ 150) C dX11_addsPart_26 rfl rfl ?_
        refine am_iload_n (q := 30) C dX11_addsPart_29 rfl rfl ?_
        refine am_imulZ (q := 31) C dX11_addsPart_30 rfl ?_
        refine am_iload (q := 33) C dX11_addsPart_31 rfl rfl ?_
        refine am_iaddZ (q := 34) C dX11_addsPart_33 rfl ?_
        refine am_dup2 (q := 35) C dX11_addsPart_34 rfl rfl rfl ?_
        refine am_laloadZ (q := 36) (150 * y + x) C dX11_addsPart_35 rfl kk_208 (show 208 < 215 by decide) (by omega) (by omega) (by decide) ?_
        refine am_longE (y := (f x y)) ((hz x y (by omega) (by omega)).trans (if_neg (by omega))) ?_
        refine am_aload_n (q := 37) C dX11_addsPart_36 rfl rfl ?_
        refine am_getR (q := 40) C fb_X11_65 dX11_addsPart_37 rfl rfl kk_191 (show 191 < 215 by decide) kr_191_26 ?_
        refine am_sipush (q := 43) (v := iZ 150) C dX11_addsPart_40 rfl rfl ?_
        refine am_iload_n (q := 44) C dX11_addsPart_43 rfl rfl ?_
        refine am_iload_n (q := 45) C dX11_addsPart_44 rfl rfl ?_
        refine am_isubZ (q := 46) C dX11_addsPart_45 rfl ?_
        refine am_imulZ (q := 47) C dX11_addsPart_46 rfl ?_
        refine am_iload (q := 49) C dX11_addsPart_47 rfl rfl ?_
        refine am_iaddZ (q := 50) C dX11_addsPart_49 rfl ?_
        refine am_iload_n (q := 51) C dX11_addsPart_50 rfl rfl ?_
        refine am_isubZ (q := 52) C dX11_addsPart_51 rfl ?_
        refine am_laloadZ (q := 53) (150 * (y - b) + (x - a)) C dX11_addsPart_52 rfl kk_208 (show 208 < 215 by decide) (by omega) (by omega) (by decide) ?_
        refine am_longE (y := (geoF f a b (x - a) (y - b))) ((hz (x - a) (y - b) (by omega) (by omega)).trans (if_pos (by omega))) ?_
        refine am_ladd (q := 54) C dX11_addsPart_53 rfl ?_
        refine am_lastoreZ (q := 55) (150 * y + x) C dX11_addsPart_54 rfl kk_208 (show 208 < 215 by decide) (by omega) (by omega) (by decide) ?_
        refine am_iincZ (q := 58) (L' := [some (.ref 191), some (.int (iZ (a : Int))), some (.int (iZ (b : Int))), some (.int (iZ (y : Int))), some (.int (iZ ((x + 1 : Nat) : Int)))]) C dX11_addsPart_55 rfl rfl (by omega) (by decide) rfl rfl ?_
        refine am_goto (q := 13) C dX11_addsPart_58 (by decide) ?_
        refine ih y (x + 1) _ hy1 hy (by omega) (by omega) (fun h hh => by rw [am_up_row _ _ _ _ hh]; exact hJ h hh) (fun x1 y1 g2 g3 => ?_) (by omega) hk9
        by_cases e : 150 * y1 + x1 = 150 * y + x
        · have e2 : y1 = y := by omega
          have e3 : x1 = x := by omega
          subst e2; subst e3
          rw [am_up_eq, if_pos (by omega)]
          exact (geoF_in f hab (by omega) (by omega)).symm
        · rw [am_up_ne _ _ _ _ (Or.inr e), hz x1 y1 g2 g3]
          by_cases e4 : y1 < y ∨ y1 = y ∧ x1 < x
          · rw [if_pos e4, if_pos (by omega)]
          · rw [if_neg e4, if_neg (by omega)]
  have lo : ∀ (fuel : Nat) (y : Nat) (J1 : Nat → Nat → Int64), (b ≤ y) → (y ≤ cy + 1 + b) → (∀ h, h ≠ 208 → J1 h = J h) → (∀ x1 y1 : Nat, x1 ≤ cx → y1 ≤ cy → J1 208 (150 * y1 + x1) = if y1 < y then geoF f a b x1 y1 else f x1 y1) → (155 - y) < fuel → am_A G mX11_addsPart X (am_rm 1 0 0) 2 [some (.ref 191), some (.int (iZ (a : Int))), some (.int (iZ (b : Int))), some (.int (iZ (y : Int))), none] [] (215, kK, kR, I, J1) 0 0 := by
    intro fuel
    induction fuel with
    | zero => intro y J1 hy1 hy0 hJ hz hf; exact absurd hf (Nat.not_lt_zero _)
    | succ fuel ih =>
      intro y J1 hy1 hy0 hJ hz hf
      refine am_iload_n (q := 3) C dX11_addsPart_2 rfl rfl ?_
      refine am_aload_n (q := 4) C dX11_addsPart_3 rfl rfl ?_
      refine am_getIe (q := 7) (v := (iZ (cy : Int))) C fb_X11_183 dX11_addsPart_4 rfl rfl kk_191 (show 191 < 215 by decide) hY ?_
      refine am_icmpZ_gt (q := 10) (tgt := 67) C dX11_addsPart_7 (by decide) rfl ⟨by omega, by omega⟩ ⟨by omega, by omega⟩ (fun g1 => ?_) (fun g1 => ?_)
      · refine am_vret C T dX11_addsPart_67 rfl (Nat.le_refl _) (Nat.le_refl _) ⟨rfl, ?_⟩
        exact ⟨_, rfl, hJ, fun x1 y1 g2 g3 => (hz x1 y1 g2 g3).trans (if_pos (by omega))⟩
      · refine am_iload_n (q := 11) C dX11_addsPart_10 rfl rfl ?_
        refine am_istore (q := 13) (L' := [some (.ref 191), some (.int (iZ (a : Int))), some (.int (iZ (b : Int))), some (.int (iZ (y : Int))), some (.int (iZ (a : Int)))]) C dX11_addsPart_11 rfl (by decide) rfl rfl ?_
        refine i1 156 y a J1 hy1 (by omega) (by omega) (by omega) hJ ?_ (by omega) (fun J2 hJ hz => ?_)
        · intro x1 y1 g2 g3
          rw [hz x1 y1 g2 g3]
          by_cases e4 : y1 < y
          · rw [if_pos e4, if_pos (by omega)]
          · rw [if_neg e4]
            by_cases e5 : y1 < y ∨ y1 = y ∧ x1 < a
            · rw [if_pos e5]; exact (geoF_out f hab (by omega)).symm
            · rw [if_neg e5]
        refine am_iincZ (q := 64) (L' := [some (.ref 191), some (.int (iZ (a : Int))), some (.int (iZ (b : Int))), some (.int (iZ ((y + 1 : Nat) : Int))), none]) C dX11_addsPart_61 rfl rfl (by omega) (by decide) rfl rfl ?_
        refine am_goto (q := 2) C dX11_addsPart_64 (by decide) ?_
        exact ih (y + 1) J2 (by omega) (by omega) hJ hz (by omega)
  refine am_iload_n (q := 1) C dX11_addsPart_0 rfl rfl ?_
  refine am_istore_n (q := 2) (L' := [some (.ref 191), some (.int (iZ (a : Int))), some (.int (iZ (b : Int))), some (.int (iZ (b : Int))), none]) C dX11_addsPart_1 rfl (by decide) rfl rfl ?_
  refine lo 156 b J (Nat.le_refl _) (by omega) (fun h _ => rfl) (fun x1 y1 g2 g3 => ?_) (by omega)
  rw [hT x1 y1 g2 g3]
  by_cases e4 : y1 < b
  · rw [if_pos e4]; exact (geoF_out f hab (by omega)).symm
  · rw [if_neg e4]
set_option maxRecDepth 4000 in
theorem sp_X11_countFree {t : PT} (hA : atQ I J t) (hK : okP t) {cx cy : Nat} (hcx : cx ≤ 149) (hcy : cy ≤ 149) : am_S G mX11_countFree 2 0 0 [.ref 191, .int (iZ (cx : Int)), .int (iZ (cy : Int))] (215, kK, kR, I, J) (am_qv (fun w' => ∃ J' : Nat → Nat → Int64, w' = (215, kK, kR, (am_up (am_up I 191 27 (iZ (cx : Int))) 191 28 (iZ (cy : Int))), J') ∧ (∀ h, h ≠ 208 → J' h = J h) ∧ tabG J' cx cy (Fr t (pm t)))) := by
  have hm := hK.1
  have hI3 : ∀ h, h ≠ 191 → (am_up (am_up I 191 27 (iZ (cx : Int))) 191 28 (iZ (cy : Int))) h = I h := fun h hh => by rw [am_up_row _ _ _ _ hh, am_up_row _ _ _ _ hh]
  have hX1 : (am_up (am_up I 191 27 (iZ (cx : Int))) 191 28 (iZ (cy : Int))) 191 27 = iZ (cx : Int) := by simp [am_up]
  have hY1 : (am_up (am_up I 191 27 (iZ (cx : Int))) 191 28 (iZ (cy : Int))) 191 28 = iZ (cy : Int) := by simp [am_up]
  have hM1 : (am_up (am_up I 191 27 (iZ (cx : Int))) 191 28 (iZ (cy : Int))) 191 0 = iZ (pm t : Int) := by simp [am_up]; exact hA.1
  refine am_spec (plainFor_of_name (by decide +kernel)) (Nat.le_of_ble_eq_true rfl) (L := [some (.ref 191), some (.int (iZ (cx : Int))), some (.int (iZ (cy : Int))), none, none]) rfl (fun X C T => ?_)
  have i1 : ∀ (fuel : Nat) (y x : Nat) (J1 : Nat → Nat → Int64), (y ≤ cy) → (x ≤ cx + 1) → (∀ h, h ≠ 208 → J1 h = J h) → (∀ x1 y1 : Nat, x1 ≤ cx → y1 ≤ cy → (y1 < y ∨ y1 = y ∧ x1 < x) → J1 208 (150 * y1 + x1) = oneAt x1 y1) → (151 - x) < fuel → (∀ (J2 : Nat → Nat → Int64), (∀ h, h ≠ 208 → J2 h = J h) → (∀ x1 y1 : Nat, x1 ≤ cx → y1 ≤ cy → (y1 < y + 1) → J2 208 (150 * y1 + x1) = oneAt x1 y1) → am_A G mX11_countFree X (am_rm 2 0 0) 57 [some (.ref 191), some (.int (iZ (cx : Int))), some (.int (iZ (cy : Int))), some (.int (iZ (y : Int))), none] [] (215, kK, kR, (am_up (am_up I 191 27 (iZ (cx : Int))) 191 28 (iZ (cy : Int))), J2) 0 0) → am_A G mX11_countFree X (am_rm 2 0 0) 20 [some (.ref 191), some (.int (iZ (cx : Int))), some (.int (iZ (cy : Int))), some (.int (iZ (y : Int))), some (.int (iZ (x : Int)))] [] (215, kK, kR, (am_up (am_up I 191 27 (iZ (cx : Int))) 191 28 (iZ (cy : Int))), J1) 0 0 := by
    intro fuel
    induction fuel with
    | zero => intro y x J1 hy hx hJ hz hfu hk9; exact absurd hfu (Nat.not_lt_zero _)
    | succ fuel ih =>
      intro y x J1 hy hx hJ hz hfu hk9
      refine am_iload (q := 22) C dX11_countFree_20 rfl rfl ?_
      refine am_iload_n (q := 23) C dX11_countFree_22 rfl rfl ?_
      refine am_icmpZ_gt (q := 26) (tgt := 57) C dX11_countFree_23 (by decide) rfl ⟨by omega, by omega⟩ ⟨by omega, by omega⟩ (fun c1 => ?_) (fun c1 => ?_)
      · refine am_wkA (L1 := [some (.ref 191), some (.int (iZ (cx : Int))), some (.int (iZ (cy : Int))), some (.int (iZ (y : Int))), none]) ⟨rfl, ⟨rfl, ⟨rfl, ⟨rfl, trivial⟩⟩⟩⟩ ?_
        exact hk9 _ hJ (fun x1 y1 g2 g3 g4 => hz x1 y1 g2 g3 (by omega))
      · refine am_aload_n (q := 27) C dX11_countFree_26 rfl rfl ?_
        refine am_getR (q := 30) C fb_X11_65 dX11_countFree_27 rfl rfl kk_191 (show 191 < 215 by decide) kr_191_26 ?_
        refine am_sipush (q := 33) (v := iZ 150) C dX11_countFree_30 rfl rfl ?_
        refine am_iload_n (q := 34) C dX11_countFree_33 rfl rfl ?_
        refine am_imulZ (q := 35) C dX11_countFree_34 rfl ?_
        refine am_iload (q := 37) C dX11_countFree_35 rfl rfl ?_
        refine am_iaddZ (q := 38) C dX11_countFree_37 rfl ?_
        refine am_iload (q := 40) C dX11_countFree_38 rfl rfl ?_
        refine am_iload_n (q := 41) C dX11_countFree_40 rfl rfl ?_
        refine am_iaddZ (q := 42) C dX11_countFree_41 rfl ?_
        refine am_ifZ_ne (q := 45) (tgt := 49) C dX11_countFree_42 (by decide) rfl ⟨by omega, by omega⟩ (fun c2 => ?_) (fun c2 => ?_)
        · refine am_lconst (q := 50) (v := lN 0) C dX11_countFree_49 rfl rfl ?_
          refine am_lastoreZ (q := 51) (150 * y + x) C dX11_countFree_50 rfl kk_208 (show 208 < 215 by decide) (by omega) (by omega) (by decide) ?_
          refine am_iincZ (q := 54) (L' := [some (.ref 191), some (.int (iZ (cx : Int))), some (.int (iZ (cy : Int))), some (.int (iZ (y : Int))), some (.int (iZ ((x + 1 : Nat) : Int)))]) C dX11_countFree_51 rfl rfl (by omega) (by decide) rfl rfl ?_
          refine am_goto (q := 20) C dX11_countFree_54 (by decide) ?_
          refine ih y (x + 1) _ hy (by omega) (fun h hh => by rw [am_up_row _ _ _ _ hh]; exact hJ h hh) (fun x1 y1 g2 g3 g4 => ?_) (by omega) hk9
          by_cases e : 150 * y1 + x1 = 150 * y + x
          · have e2 : y1 = y := by omega
            have e3 : x1 = x := by omega
            subst e2; subst e3
            rw [am_up_eq]
            exact (if_neg (show ¬ (x1 = 0 ∧ y1 = 0) by omega)).symm
          · rw [am_up_ne _ _ _ _ (Or.inr e)]; exact hz x1 y1 g2 g3 (by omega)
        · refine am_lconst (q := 46) (v := lN 1) C dX11_countFree_45 rfl rfl ?_
          refine am_goto (q := 50) C dX11_countFree_46 (by decide) ?_
          refine am_lastoreZ (q := 51) (150 * y + x) C dX11_countFree_50 rfl kk_208 (show 208 < 215 by decide) (by omega) (by omega) (by decide) ?_
          refine am_iincZ (q := 54) (L' := [some (.ref 191), some (.int (iZ (cx : Int))), some (.int (iZ (cy : Int))), some (.int (iZ (y : Int))), some (.int (iZ ((x + 1 : Nat) : Int)))]) C dX11_countFree_51 rfl rfl (by omega) (by decide) rfl rfl ?_
          refine am_goto (q := 20) C dX11_countFree_54 (by decide) ?_
          refine ih y (x + 1) _ hy (by omega) (fun h hh => by rw [am_up_row _ _ _ _ hh]; exact hJ h hh) (fun x1 y1 g2 g3 g4 => ?_) (by omega) hk9
          by_cases e : 150 * y1 + x1 = 150 * y + x
          · have e2 : y1 = y := by omega
            have e3 : x1 = x := by omega
            subst e2; subst e3
            rw [am_up_eq]
            exact (if_pos (show x1 = 0 ∧ y1 = 0 by omega)).symm
          · rw [am_up_ne _ _ _ _ (Or.inr e)]; exact hz x1 y1 g2 g3 (by omega)
  have i2 : ∀ (fuel : Nat) (y : Nat) (J1 : Nat → Nat → Int64), (y ≤ cy + 1) → (∀ h, h ≠ 208 → J1 h = J h) → (∀ x1 y1 : Nat, x1 ≤ cx → y1 ≤ cy → (y1 < y) → J1 208 (150 * y1 + x1) = oneAt x1 y1) → (151 - y) < fuel → (∀ (J2 : Nat → Nat → Int64), (∀ h, h ≠ 208 → J2 h = J h) → (tabG J2 cx cy oneAt) → am_A G mX11_countFree X (am_rm 2 0 0) 63 [some (.ref 191), some (.int (iZ (cx : Int))), some (.int (iZ (cy : Int))), none, none] [] (215, kK, kR, (am_up (am_up I 191 27 (iZ (cx : Int))) 191 28 (iZ (cy : Int))), J2) 0 0) → am_A G mX11_countFree X (am_rm 2 0 0) 12 [some (.ref 191), some (.int (iZ (cx : Int))), some (.int (iZ (cy : Int))), some (.int (iZ (y : Int))), none] [] (215, kK, kR, (am_up (am_up I 191 27 (iZ (cx : Int))) 191 28 (iZ (cy : Int))), J1) 0 0 := by
    intro fuel
    induction fuel with
    | zero => intro y J1 hy hJ hz hfu hk9; exact absurd hfu (Nat.not_lt_zero _)
    | succ fuel ih =>
      intro y J1 hy hJ hz hfu hk9
      refine am_iload_n (q := 13) C dX11_countFree_12 rfl rfl ?_
      refine am_iload_n (q := 14) C dX11_countFree_13 rfl rfl ?_
      refine am_icmpZ_gt (q := 17) (tgt := 63) C dX11_countFree_14 (by decide) rfl ⟨by omega, by omega⟩ ⟨by omega, by omega⟩ (fun c3 => ?_) (fun c3 => ?_)
      · refine am_wkA (L1 := [some (.ref 191), some (.int (iZ (cx : Int))), some (.int (iZ (cy : Int))), none, none]) ⟨rfl, ⟨rfl, ⟨rfl, trivial⟩⟩⟩ ?_
        exact hk9 _ hJ (fun x1 y1 g2 g3 => hz x1 y1 g2 g3 (by omega))
      · refine am_iconst (q := 18) (v := iZ 0) C dX11_countFree_17 rfl rfl ?_
        refine am_istore (q := 20) (L' := [some (.ref 191), some (.int (iZ (cx : Int))), some (.int (iZ (cy : Int))), some (.int (iZ (y : Int))), some (.int (iZ 0))]) C dX11_countFree_18 rfl (by decide) rfl rfl ?_
        refine i1 152 y 0 _ (by omega) (by omega) hJ (fun x1 y1 g2 g3 g4 => hz x1 y1 g2 g3 (by omega)) (by omega) (fun J2 hJ hz => ?_)
        refine am_iincZ (q := 60) (L' := [some (.ref 191), some (.int (iZ (cx : Int))), some (.int (iZ (cy : Int))), some (.int (iZ ((y + 1 : Nat) : Int))), none]) C dX11_countFree_57 rfl rfl (by omega) (by decide) rfl rfl ?_
        refine am_goto (q := 12) C dX11_countFree_60 (by decide) ?_
        exact ih (y + 1) _ (by omega) hJ hz (by omega) hk9
  have lp : ∀ (fuel : Nat) (p : Nat) (J1 : Nat → Nat → Int64), (p ≤ pm t) → (∀ h, h ≠ 208 → J1 h = J h) → (tabG J1 cx cy (Fr t p)) → (pm t - p) < fuel → am_A G mX11_countFree X (am_rm 2 0 0) 65 [some (.ref 191), some (.int (iZ (cx : Int))), some (.int (iZ (cy : Int))), some (.int (iZ (p : Int))), none] [] (215, kK, kR, (am_up (am_up I 191 27 (iZ (cx : Int))) 191 28 (iZ (cy : Int))), J1) 0 0 := by
    intro fuel
    induction fuel with
    | zero => intro p J1 hp hJ hz hf; exact absurd hf (Nat.not_lt_zero _)
    | succ fuel ih =>
      intro p J1 hp hJ hz hf
      refine am_iload_n (q := 66) C dX11_countFree_65 rfl rfl ?_
      refine am_aload_n (q := 67) C dX11_countFree_66 rfl rfl ?_
      refine am_getIe (q := 70) (v := (iZ (pm t : Int))) C fb_X11_86 dX11_countFree_67 rfl rfl kk_191 (show 191 < 215 by decide) hM1 ?_
      refine am_icmpZ_ge (q := 73) (tgt := 95) C dX11_countFree_70 (by decide) rfl ⟨by omega, by omega⟩ ⟨by omega, by omega⟩ (fun g1 => ?_) (fun g1 => ?_)
      · refine am_vret C T dX11_countFree_95 rfl (Nat.le_refl _) (Nat.le_refl _) ⟨rfl, ?_⟩
        exact ⟨_, rfl, hJ, by rw [show pm t = p by omega]; exact hz⟩
      · refine am_aload_n (q := 74) C dX11_countFree_73 rfl rfl ?_
        refine am_aload_n (q := 75) C dX11_countFree_74 rfl rfl ?_
        refine am_getR (q := 78) C fb_X11_15 dX11_countFree_75 rfl rfl kk_191 (show 191 < 215 by decide) kr_191_4 ?_
        refine am_iload_n (q := 79) C dX11_countFree_78 rfl rfl ?_
        refine am_ialoadZ (q := 80) p C dX11_countFree_79 rfl kk_192 (show 192 < 215 by decide) rfl (by omega) (by decide) ?_
        refine am_intE (y := (iZ (pa t p : Int))) (by rw [hI3 192 (by decide)]; exact (hA.2 p (by omega)).1) ?_
        refine am_aload_n (q := 81) C dX11_countFree_80 rfl rfl ?_
        refine am_getR (q := 84) C fb_X11_19 dX11_countFree_81 rfl rfl kk_191 (show 191 < 215 by decide) kr_191_5 ?_
        refine am_iload_n (q := 85) C dX11_countFree_84 rfl rfl ?_
        refine am_ialoadZ (q := 86) p C dX11_countFree_85 rfl kk_193 (show 193 < 215 by decide) rfl (by omega) (by decide) ?_
        refine am_intE (y := (iZ (pb t p : Int))) (by rw [hI3 193 (by decide)]; exact (hA.2 p (by omega)).2.1) ?_
        refine am_callV (q := 89) (As := [.int (iZ (pa t p : Int)), .int (iZ (pb t p : Int))]) (rest := []) C mb_X11_addsPart im_X11_addsPart se_X11_addsPart ml_X11_189 cb_11 kk_191 (show 191 < 215 by decide) dX11_countFree_86 rfl (sp_X11_addsPart hcx hcy hX1 hY1 hz (hK.2 p (by omega)).1 (hK.2 p (by omega)).2.1 (hK.2 p (by omega)).2.2.1) rfl rfl ⟨by decide, by decide⟩ ⟨Nat.le_refl _, Nat.le_refl _⟩ (Nat.le_of_ble_eq_true rfl) (am_rv (fun w' hw' => ?_))
        obtain ⟨J3, rfl, hJ3, hT3⟩ := hw'
        refine am_iincZ (q := 92) (L' := [some (.ref 191), some (.int (iZ (cx : Int))), some (.int (iZ (cy : Int))), some (.int (iZ ((p + 1 : Nat) : Int))), none]) C dX11_countFree_89 rfl rfl (by omega) (by decide) rfl rfl ?_
        refine am_goto (q := 65) C dX11_countFree_92 (by decide) ?_
        exact ih (p + 1) J3 (by omega) (fun h hh => by rw [hJ3 h hh]; exact hJ h hh) hT3 (by omega)
  refine am_aload_n (q := 1) C dX11_countFree_0 rfl rfl ?_
  refine am_iload_n (q := 2) C dX11_countFree_1 rfl rfl ?_
  refine am_putI (q := 5) C fw_X11_186 dX11_countFree_2 rfl rfl kk_191 (show 191 < 215 by decide) ?_
  refine am_aload_n (q := 6) C dX11_countFree_5 rfl rfl ?_
  refine am_iload_n (q := 7) C dX11_countFree_6 rfl rfl ?_
  refine am_putI (q := 10) C fw_X11_183 dX11_countFree_7 rfl rfl kk_191 (show 191 < 215 by decide) ?_
  refine am_iconst (q := 11) (v := iZ 0) C dX11_countFree_10 rfl rfl ?_
  refine am_istore_n (q := 12) (L' := [some (.ref 191), some (.int (iZ (cx : Int))), some (.int (iZ (cy : Int))), some (.int (iZ 0)), none]) C dX11_countFree_11 rfl (by decide) rfl rfl ?_
  refine i2 152 0 J (by omega) (fun h _ => rfl) (fun x1 y1 g2 g3 g4 => absurd g4 (by omega)) (by omega) (fun J2 hJ hz => ?_)
  refine am_iconst (q := 64) (v := iZ 0) C dX11_countFree_63 rfl rfl ?_
  refine am_istore_n (q := 65) (L' := [some (.ref 191), some (.int (iZ (cx : Int))), some (.int (iZ (cy : Int))), some (.int (iZ 0)), none]) C dX11_countFree_64 rfl (by decide) rfl rfl ?_
  exact lp (pm t + 1) 0 J2 (Nat.zero_le _) hJ hz (by omega)
set_option maxRecDepth 4000 in
theorem sp_X11_freeAt {cx cy : Nat} (hcx : cx ≤ 149) (hcy : cy ≤ 149) {f : Nat → Nat → Int64} (hT : tabG J cx cy f) {x y : Int} (hx : rg x) (hy : rg y) (hx2 : x ≤ cx) (hy2 : y ≤ cy) : am_S G mX11_freeAt 1 0 0 [.ref 191, .int (iZ x), .int (iZ y)] (215, kK, kR, I, J) (am_fl (if 0 ≤ x ∧ 0 ≤ y then f x.toNat y.toNat else 0) (215, kK, kR, I, J)) := by
  refine am_spec (plainFor_of_name (by decide +kernel)) (Nat.le_of_ble_eq_true rfl) (L := [some (.ref 191), some (.int (iZ x)), some (.int (iZ y))]) rfl (fun X C T => ?_)
  refine am_iload_n (q := 1) C dX11_freeAt_0 rfl rfl ?_
  refine am_ifZ_lt (q := 4) (tgt := 8) C dX11_freeAt_1 (by decide) rfl hx (fun c1 => ?_) (fun c1 => ?_)
  · refine am_lconst (q := 9) (v := lN 0) C dX11_freeAt_8 rfl rfl ?_
    refine am_goto (q := 24) C dX11_freeAt_9 (by decide) ?_
    refine am_lret C T dX11_freeAt_24 rfl (Nat.le_refl _) (Nat.le_refl _) ⟨_, rfl, ?_⟩
    refine ⟨?_, rfl⟩
    first | exact (if_pos (by omega)).symm | exact (if_neg (by omega)).symm
  · refine am_iload_n (q := 5) C dX11_freeAt_4 rfl rfl ?_
    refine am_ifZ_ge (q := 8) (tgt := 12) C dX11_freeAt_5 (by decide) rfl hy (fun c2 => ?_) (fun c2 => ?_)
    · refine am_aload_n (q := 13) C dX11_freeAt_12 rfl rfl ?_
      refine am_getR (q := 16) C fb_X11_65 dX11_freeAt_13 rfl rfl kk_191 (show 191 < 215 by decide) kr_191_26 ?_
      refine am_sipush (q := 19) (v := iZ 150) C dX11_freeAt_16 rfl rfl ?_
      refine am_iload_n (q := 20) C dX11_freeAt_19 rfl rfl ?_
      refine am_imulZ (q := 21) C dX11_freeAt_20 rfl ?_
      refine am_iload_n (q := 22) C dX11_freeAt_21 rfl rfl ?_
      refine am_iaddZ (q := 23) C dX11_freeAt_22 rfl ?_
      refine am_laloadZ (q := 24) (150 * y.toNat + x.toNat) C dX11_freeAt_23 rfl kk_208 (show 208 < 215 by decide) (by omega) (by omega) (by decide) ?_
      refine am_longE (y := (f x.toNat y.toNat)) (hT x.toNat y.toNat (by omega) (by omega)) ?_
      refine am_lret C T dX11_freeAt_24 rfl (Nat.le_refl _) (Nat.le_refl _) ⟨_, rfl, ?_⟩
      refine ⟨?_, rfl⟩
      first | exact (if_pos (by omega)).symm | exact (if_neg (by omega)).symm
    · refine am_lconst (q := 9) (v := lN 0) C dX11_freeAt_8 rfl rfl ?_
      refine am_goto (q := 24) C dX11_freeAt_9 (by decide) ?_
      refine am_lret C T dX11_freeAt_24 rfl (Nat.le_refl _) (Nat.le_refl _) ⟨_, rfl, ?_⟩
      refine ⟨?_, rfl⟩
      first | exact (if_pos (by omega)).symm | exact (if_neg (by omega)).symm
theorem cf_frS {cx cy : Nat} {J' : Nat → Nat → Int64} (h : ∀ x, x ≠ 208 → J' x = J x) : frS I J (am_up (am_up I 191 27 (iZ (cx : Int))) 191 28 (iZ (cy : Int))) J' := frS_tr (frS_up (by decide)) (frS_tr (frS_up (by decide)) (frS_208 h))
set_option maxRecDepth 4000 in
theorem sp_X11_free {σ : SG} (hM : atM I J σ) {x y : Int} (hx : rg x) (hy : rg y) : am_S G mX11_free 3 0 0 [.ref 191, .int (iZ x), .int (iZ y)] (215, kK, kR, I, J) (am_ql (fun v w' => v = (if 0 ≤ x ∧ x ≤ 60 ∧ 0 ≤ y ∧ y ≤ 60 then Frz σ.1 x y else (-9223372036854775808)) ∧ ∃ (I' : Nat → Nat → Int32) (J' : Nat → Nat → Int64), w' = (215, kK, kR, I', J') ∧ atM I' J' (σ) ∧ frM I J I' J')) := by
  have hQ := hM.1
  have hK := hM.2.1
  have hm := hM.2.1.1
  have hL := hM.2.2.1
  have sa := sumN_le (pa σ.1) (c := 4) (pm σ.1) (fun p hp => (hK.2 p hp).1)
  have sb := sumN_le (pb σ.1) (c := 4) (pm σ.1) (fun p hp => (hK.2 p hp).2.1)
  refine am_spec (plainFor_of_name (by decide +kernel)) (Nat.le_of_ble_eq_true rfl) (L := [some (.ref 191), some (.int (iZ x)), some (.int (iZ y))]) rfl (fun X C T => ?_)
  refine am_iload_n (q := 1) C dX11_free_0 rfl rfl ?_
  refine am_iload_n (q := 2) C dX11_free_1 rfl rfl ?_
  refine am_bipush (q := 4) (v := iZ 60) C dX11_free_2 rfl rfl ?_
  refine am_callS (q := 7) (As := [.int (iZ x), .int (iZ y), .int (iZ 60)]) (rest := []) C mb_X11_isPoint st_X11_isPoint ml_X11_175 dX11_free_4 rfl (sp_X11_isPoint (c := 60) hx hy ⟨by omega, by omega⟩) rfl rfl ⟨by decide, by decide⟩ ⟨Nat.le_refl _, Nat.le_refl _⟩ (Nat.le_of_ble_eq_true rfl) (am_rie ?_)
  refine am_ifB_ne (q := 10) (tgt := 14) C dX11_free_7 (by decide) rfl (fun c1 => ?_) (fun c1 => ?_)
  · obtain ⟨x1, rfl⟩ : ∃ q : Nat, x = q := ⟨x.toNat, by omega⟩
    obtain ⟨y1, rfl⟩ : ∃ q : Nat, y = q := ⟨y.toNat, by omega⟩
    refine am_aload_n (q := 15) C dX11_free_14 rfl rfl ?_
    refine am_iload_n (q := 16) C dX11_free_15 rfl rfl ?_
    refine am_iload_n (q := 17) C dX11_free_16 rfl rfl ?_
    refine am_callV (q := 20) (As := [.int (iZ (x1 : Int)), .int (iZ (y1 : Int))]) (rest := []) C mb_X11_countFree im_X11_countFree se_X11_countFree ml_X11_192 cb_11 kk_191 (show 191 < 215 by decide) dX11_free_17 rfl (sp_X11_countFree hM.1 hM.2.1 (cx := x1) (cy := y1) (by omega) (by omega)) rfl rfl ⟨by decide, by decide⟩ ⟨Nat.le_refl _, Nat.le_refl _⟩ (Nat.le_of_ble_eq_true rfl) (am_rv (fun w' hw' => ?_))
    obtain ⟨J1, rfl, hJ, hT⟩ := hw'
    have hfS := cf_frS (I := I) (cx := x1) (cy := y1) hJ
    refine am_aload_n (q := 21) C dX11_free_20 rfl rfl ?_
    refine am_iload_n (q := 22) C dX11_free_21 rfl rfl ?_
    refine am_iload_n (q := 23) C dX11_free_22 rfl rfl ?_
    refine am_callV (q := 26) (As := [.int (iZ (x1 : Int)), .int (iZ (y1 : Int))]) (rest := []) C mb_X11_freeAt im_X11_freeAt se_X11_freeAt ml_X11_195 cb_11 kk_191 (show 191 < 215 by decide) dX11_free_23 rfl (sp_X11_freeAt (cx := x1) (cy := y1) (by omega) (by omega) hT (x := (x1 : Int)) (y := (y1 : Int)) ⟨by omega, by omega⟩ ⟨by omega, by omega⟩ (by omega) (by omega)) rfl rfl ⟨by decide, by decide⟩ ⟨Nat.le_refl _, Nat.le_refl _⟩ (Nat.le_of_ble_eq_true rfl) (am_rle ?_)
    refine am_longE (show _ = Frz σ.1 ((x1 : Int)) ((y1 : Int)) from rfl) ?_
    refine am_lret C T dX11_free_26 rfl (Nat.le_refl _) (Nat.le_refl _) ⟨_, rfl, ?_⟩
    rw [if_pos (by omega)]
    exact ⟨rfl, _, _, rfl, hM.scr hfS, hfS.M⟩
  · refine am_ldc2 (q := 13) C dX11_free_10 rfl ck_X11_178 ?_
    refine am_lret C T dX11_free_13 rfl (Nat.le_refl _) (Nat.le_refl _) ⟨_, rfl, ?_⟩
    rw [if_neg (by omega)]
    exact ⟨rfl, _, _, rfl, hM, frM_refl⟩
set_option maxRecDepth 4000 in
theorem sp_X11_strict {σ : SG} (hM : atM I J σ) {x y : Int} (hx : rg x) (hy : rg y) : am_S G mX11_strict 3 0 0 [.ref 191, .int (iZ x), .int (iZ y)] (215, kK, kR, I, J) (am_ql (fun v w' => v = (if 0 ≤ x ∧ x ≤ 60 ∧ 0 ≤ y ∧ y ≤ 60 then Frz σ.1 (x - (sumN (pa σ.1) (pm σ.1) : Int)) (y - (sumN (pb σ.1) (pm σ.1) : Int)) else (-9223372036854775808)) ∧ ∃ (I' : Nat → Nat → Int32) (J' : Nat → Nat → Int64), w' = (215, kK, kR, I', J') ∧ atM I' J' (σ) ∧ frM I J I' J')) := by
  have hQ := hM.1
  have hK := hM.2.1
  have hm := hM.2.1.1
  have hL := hM.2.2.1
  have sa := sumN_le (pa σ.1) (c := 4) (pm σ.1) (fun p hp => (hK.2 p hp).1)
  have sb := sumN_le (pb σ.1) (c := 4) (pm σ.1) (fun p hp => (hK.2 p hp).2.1)
  refine am_spec (plainFor_of_name (by decide +kernel)) (Nat.le_of_ble_eq_true rfl) (L := [some (.ref 191), some (.int (iZ x)), some (.int (iZ y)), none, none, none]) rfl (fun X C T => ?_)
  refine am_iload_n (q := 1) C dX11_strict_0 rfl rfl ?_
  refine am_iload_n (q := 2) C dX11_strict_1 rfl rfl ?_
  refine am_bipush (q := 4) (v := iZ 60) C dX11_strict_2 rfl rfl ?_
  refine am_callS (q := 7) (As := [.int (iZ x), .int (iZ y), .int (iZ 60)]) (rest := []) C mb_X11_isPoint st_X11_isPoint ml_X11_175 dX11_strict_4 rfl (sp_X11_isPoint (c := 60) hx hy ⟨by omega, by omega⟩) rfl rfl ⟨by decide, by decide⟩ ⟨Nat.le_refl _, Nat.le_refl _⟩ (Nat.le_of_ble_eq_true rfl) (am_rie ?_)
  refine am_ifB_ne (q := 10) (tgt := 14) C dX11_strict_7 (by decide) rfl (fun c1 => ?_) (fun c1 => ?_)
  · obtain ⟨x1, rfl⟩ : ∃ q : Nat, x = q := ⟨x.toNat, by omega⟩
    obtain ⟨y1, rfl⟩ : ∃ q : Nat, y = q := ⟨y.toNat, by omega⟩
    refine am_aload_n (q := 15) C dX11_strict_14 rfl rfl ?_
    refine am_iload_n (q := 16) C dX11_strict_15 rfl rfl ?_
    refine am_iload_n (q := 17) C dX11_strict_16 rfl rfl ?_
    refine am_callV (q := 20) (As := [.int (iZ (x1 : Int)), .int (iZ (y1 : Int))]) (rest := []) C mb_X11_countFree im_X11_countFree se_X11_countFree ml_X11_192 cb_11 kk_191 (show 191 < 215 by decide) dX11_strict_17 rfl (sp_X11_countFree hM.1 hM.2.1 (cx := x1) (cy := y1) (by omega) (by omega)) rfl rfl ⟨by decide, by decide⟩ ⟨Nat.le_refl _, Nat.le_refl _⟩ (Nat.le_of_ble_eq_true rfl) (am_rv (fun w' hw' => ?_))
    obtain ⟨J1, rfl, hJ, hT⟩ := hw'
    have hfS := cf_frS (I := I) (cx := x1) (cy := y1) hJ
    refine am_iconst (q := 21) (v := iZ 0) C dX11_strict_20 rfl rfl ?_
    refine am_istore_n (q := 22) (L' := [some (.ref 191), some (.int (iZ (x1 : Int))), some (.int (iZ (y1 : Int))), some (.int (iZ 0)), none, none]) C dX11_strict_21 rfl (by decide) rfl rfl ?_
    refine am_iconst (q := 23) (v := iZ 0) C dX11_strict_22 rfl rfl ?_
    refine am_istore (q := 25) (L' := [some (.ref 191), some (.int (iZ (x1 : Int))), some (.int (iZ (y1 : Int))), some (.int (iZ 0)), some (.int (iZ 0)), none]) C dX11_strict_23 rfl (by decide) rfl rfl ?_
    refine am_iconst (q := 26) (v := iZ 0) C dX11_strict_25 rfl rfl ?_
    refine am_istore (q := 28) (L' := [some (.ref 191), some (.int (iZ (x1 : Int))), some (.int (iZ (y1 : Int))), some (.int (iZ 0)), some (.int (iZ 0)), some (.int (iZ 0))]) C dX11_strict_26 rfl (by decide) rfl rfl ?_
    have lp : ∀ (fuel : Nat) (q : Nat), (q ≤ pm σ.1) → (pm σ.1 - q) < fuel → (am_A G mX11_strict X (am_rm 3 0 0) 65 [some (.ref 191), some (.int (iZ (x1 : Int))), some (.int (iZ (y1 : Int))), some (.int (iZ (sumN (pa σ.1) (pm σ.1) : Int))), some (.int (iZ (sumN (pb σ.1) (pm σ.1) : Int))), none] [] (215, kK, kR, (am_up (am_up I 191 27 (iZ (x1 : Int))) 191 28 (iZ (y1 : Int))), J1) 0 0) → am_A G mX11_strict X (am_rm 3 0 0) 28 [some (.ref 191), some (.int (iZ (x1 : Int))), some (.int (iZ (y1 : Int))), some (.int (iZ (sumN (pa σ.1) q : Int))), some (.int (iZ (sumN (pb σ.1) q : Int))), some (.int (iZ (q : Int)))] [] (215, kK, kR, (am_up (am_up I 191 27 (iZ (x1 : Int))) 191 28 (iZ (y1 : Int))), J1) 0 0 := by
      intro fuel
      induction fuel with
      | zero => intro q hq hfu hk9; exact absurd hfu (Nat.not_lt_zero _)
      | succ fuel ih =>
        intro q hq hfu hk9
        refine am_iload (q := 30) C dX11_strict_28 rfl rfl ?_
        refine am_aload_n (q := 31) C dX11_strict_30 rfl rfl ?_
        refine am_getIe (q := 34) (v := (iZ (pm σ.1 : Int))) C fb_X11_86 dX11_strict_31 rfl rfl kk_191 (show 191 < 215 by decide) (by rw [am_up_ne _ _ _ _ (Or.inr (by decide)), am_up_ne _ _ _ _ (Or.inr (by decide))]; exact hQ.1) ?_
        refine am_icmpZ_ge (q := 37) (tgt := 65) C dX11_strict_34 (by decide) rfl ⟨by omega, by omega⟩ ⟨by omega, by omega⟩ (fun e1 => ?_) (fun e1 => ?_)
        · refine am_wkA (L1 := [some (.ref 191), some (.int (iZ (x1 : Int))), some (.int (iZ (y1 : Int))), some (.int (iZ (sumN (pa σ.1) q : Int))), some (.int (iZ (sumN (pb σ.1) q : Int))), none]) ⟨rfl, ⟨rfl, ⟨rfl, ⟨rfl, ⟨rfl, trivial⟩⟩⟩⟩⟩ ?_
          rw [show q = pm σ.1 by omega]
          exact hk9
        · refine am_iload_n (q := 38) C dX11_strict_37 rfl rfl ?_
          refine am_aload_n (q := 39) C dX11_strict_38 rfl rfl ?_
          refine am_getR (q := 42) C fb_X11_15 dX11_strict_39 rfl rfl kk_191 (show 191 < 215 by decide) kr_191_4 ?_
          refine am_iload (q := 44) C dX11_strict_42 rfl rfl ?_
          refine am_ialoadZ (q := 45) q C dX11_strict_44 rfl kk_192 (show 192 < 215 by decide) rfl (by omega) (by decide) ?_
          refine am_intE (y := (iZ (pa σ.1 q : Int))) (by rw [am_up_row _ _ _ _ (by decide), am_up_row _ _ _ _ (by decide)]; exact (hQ.2 q (by omega)).1) ?_
          refine am_iaddZ (q := 46) C dX11_strict_45 rfl ?_
          refine am_intE (y := (iZ (sumN (pa σ.1) (q + 1) : Int))) (congrArg iZ rfl) ?_
          refine am_istore_n (q := 47) (L' := [some (.ref 191), some (.int (iZ (x1 : Int))), some (.int (iZ (y1 : Int))), some (.int (iZ (sumN (pa σ.1) (q + 1) : Int))), some (.int (iZ (sumN (pb σ.1) q : Int))), some (.int (iZ (q : Int)))]) C dX11_strict_46 rfl (by decide) rfl rfl ?_
          refine am_iload (q := 49) C dX11_strict_47 rfl rfl ?_
          refine am_aload_n (q := 50) C dX11_strict_49 rfl rfl ?_
          refine am_getR (q := 53) C fb_X11_19 dX11_strict_50 rfl rfl kk_191 (show 191 < 215 by decide) kr_191_5 ?_
          refine am_iload (q := 55) C dX11_strict_53 rfl rfl ?_
          refine am_ialoadZ (q := 56) q C dX11_strict_55 rfl kk_193 (show 193 < 215 by decide) rfl (by omega) (by decide) ?_
          refine am_intE (y := (iZ (pb σ.1 q : Int))) (by rw [am_up_row _ _ _ _ (by decide), am_up_row _ _ _ _ (by decide)]; exact (hQ.2 q (by omega)).2.1) ?_
          refine am_iaddZ (q := 57) C dX11_strict_56 rfl ?_
          refine am_intE (y := (iZ (sumN (pb σ.1) (q + 1) : Int))) (congrArg iZ rfl) ?_
          refine am_istore (q := 59) (L' := [some (.ref 191), some (.int (iZ (x1 : Int))), some (.int (iZ (y1 : Int))), some (.int (iZ (sumN (pa σ.1) (q + 1) : Int))), some (.int (iZ (sumN (pb σ.1) (q + 1) : Int))), some (.int (iZ (q : Int)))]) C dX11_strict_57 rfl (by decide) rfl rfl ?_
          refine am_iincZ (q := 62) (L' := [some (.ref 191), some (.int (iZ (x1 : Int))), some (.int (iZ (y1 : Int))), some (.int (iZ (sumN (pa σ.1) (q + 1) : Int))), some (.int (iZ (sumN (pb σ.1) (q + 1) : Int))), some (.int (iZ ((q + 1 : Nat) : Int)))]) C dX11_strict_59 rfl rfl (by omega) (by decide) rfl rfl ?_
          refine am_goto (q := 28) C dX11_strict_62 (by decide) ?_
          exact ih (q + 1) (by omega) (by omega) hk9
    refine lp (pm σ.1 + 1) 0 (Nat.zero_le _) (by omega) ?_
    refine am_aload_n (q := 66) C dX11_strict_65 rfl rfl ?_
    refine am_iload_n (q := 67) C dX11_strict_66 rfl rfl ?_
    refine am_iload_n (q := 68) C dX11_strict_67 rfl rfl ?_
    refine am_isubZ (q := 69) C dX11_strict_68 rfl ?_
    refine am_iload_n (q := 70) C dX11_strict_69 rfl rfl ?_
    refine am_iload (q := 72) C dX11_strict_70 rfl rfl ?_
    refine am_isubZ (q := 73) C dX11_strict_72 rfl ?_
    refine am_callV (q := 76) (As := [.int (iZ ((x1 : Int) - (sumN (pa σ.1) (pm σ.1) : Int))), .int (iZ ((y1 : Int) - (sumN (pb σ.1) (pm σ.1) : Int)))]) (rest := []) C mb_X11_freeAt im_X11_freeAt se_X11_freeAt ml_X11_195 cb_11 kk_191 (show 191 < 215 by decide) dX11_strict_73 rfl (sp_X11_freeAt (cx := x1) (cy := y1) (by omega) (by omega) hT (x := (x1 : Int) - (sumN (pa σ.1) (pm σ.1) : Int)) (y := (y1 : Int) - (sumN (pb σ.1) (pm σ.1) : Int)) ⟨by omega, by omega⟩ ⟨by omega, by omega⟩ (by omega) (by omega)) rfl rfl ⟨by decide, by decide⟩ ⟨Nat.le_refl _, Nat.le_refl _⟩ (Nat.le_of_ble_eq_true rfl) (am_rle ?_)
    refine am_longE (show _ = Frz σ.1 ((x1 : Int) - (sumN (pa σ.1) (pm σ.1) : Int)) ((y1 : Int) - (sumN (pb σ.1) (pm σ.1) : Int)) from rfl) ?_
    refine am_lret C T dX11_strict_76 rfl (Nat.le_refl _) (Nat.le_refl _) ⟨_, rfl, ?_⟩
    rw [if_pos (by omega)]
    exact ⟨rfl, _, _, rfl, hM.scr hfS, hfS.M⟩
  · refine am_ldc2 (q := 13) C dX11_strict_10 rfl ck_X11_178 ?_
    refine am_lret C T dX11_strict_13 rfl (Nat.le_refl _) (Nat.le_refl _) ⟨_, rfl, ?_⟩
    rw [if_neg (by omega)]
    exact ⟨rfl, _, _, rfl, hM, frM_refl⟩
