variable {G : am_G} {I : Nat → Nat → Int32} {J : Nat → Nat → Int64}
set_option maxRecDepth 4000 in
theorem sp_X11_place (a b c : Int) : am_S G mX11_place 1 0 0 [.int (iZ a), .int (iZ b), .int (iZ c)] (215, kK, kR, I, J) (am_fi (iZ ((a * 61 + c) * 61 + b)) (215, kK, kR, I, J)) := by
  refine am_spec (plainFor_of_name (by decide +kernel)) (Nat.le_of_ble_eq_true rfl) (L := [some (.int (iZ a)), some (.int (iZ b)), some (.int (iZ c))]) rfl (fun X C T => ?_)
  refine am_iload_n (q := 1) C dX11_place_0 rfl rfl ?_
  refine am_bipush (q := 3) (v := iZ 61) C dX11_place_1 rfl rfl ?_
  refine am_imulZ (q := 4) C dX11_place_3 rfl ?_
  refine am_iload_n (q := 5) C dX11_place_4 rfl rfl ?_
  refine am_iaddZ (q := 6) C dX11_place_5 rfl ?_
  refine am_bipush (q := 8) (v := iZ 61) C dX11_place_6 rfl rfl ?_
  refine am_imulZ (q := 9) C dX11_place_8 rfl ?_
  refine am_iload_n (q := 10) C dX11_place_9 rfl rfl ?_
  refine am_iaddZ (q := 11) C dX11_place_10 rfl ?_
  refine am_iret C T dX11_place_11 rfl (Nat.le_refl _) (Nat.le_refl _) ⟨_, rfl, ?_⟩
  exact ⟨rfl, rfl⟩
set_option maxRecDepth 4000 in
theorem sp_X11_isPoint {x y c : Int} (hx : rg x) (hy : rg y) (hc : rg c) : am_S G mX11_isPoint 2 0 0 [.int (iZ x), .int (iZ y), .int (iZ c)] (215, kK, kR, I, J) (am_fi (if 0 ≤ x ∧ x ≤ c ∧ 0 ≤ y ∧ y ≤ c then 1 else 0) (215, kK, kR, I, J)) := by
  refine am_spec (plainFor_of_name (by decide +kernel)) (Nat.le_of_ble_eq_true rfl) (L := [some (.int (iZ x)), some (.int (iZ y)), some (.int (iZ c))]) rfl (fun X C T => ?_)
  refine am_iload_n (q := 1) C dX11_isPoint_0 rfl rfl ?_
  refine am_iconst (q := 2) (v := iZ 0) C dX11_isPoint_1 rfl rfl ?_
  refine am_iload_n (q := 3) C dX11_isPoint_2 rfl rfl ?_
  refine am_callS (q := 6) (As := [.int (iZ x), .int (iZ 0), .int (iZ c)]) (rest := []) C mb_X11_in st_X11_in ml_X11_89 dX11_isPoint_3 rfl (sp_X11_in (v := x) (a := 0) (b := c) hx ⟨by omega, by omega⟩ hc) rfl rfl ⟨by decide, by decide⟩ ⟨Nat.le_refl _, Nat.le_refl _⟩ (Nat.le_of_ble_eq_true rfl) (am_rie ?_)
  refine am_ifB_eq (q := 9) (tgt := 22) C dX11_isPoint_6 (by decide) rfl (fun c1 => ?_) (fun c1 => ?_)
  · refine am_iconst (q := 23) (v := iZ 0) C dX11_isPoint_22 rfl rfl ?_
    refine am_zretB (b := false) C T dX11_isPoint_23 rfl (Nat.le_refl _) (Nat.le_refl _) rfl ⟨_, rfl, ?_⟩
    refine ⟨?_, rfl⟩
    first | (rw [if_neg (by omega)]; rfl) | (rw [if_pos (by omega)]; rfl)
  · refine am_iload_n (q := 10) C dX11_isPoint_9 rfl rfl ?_
    refine am_iconst (q := 11) (v := iZ 0) C dX11_isPoint_10 rfl rfl ?_
    refine am_iload_n (q := 12) C dX11_isPoint_11 rfl rfl ?_
    refine am_callS (q := 15) (As := [.int (iZ y), .int (iZ 0), .int (iZ c)]) (rest := []) C mb_X11_in st_X11_in ml_X11_89 dX11_isPoint_12 rfl (sp_X11_in (v := y) (a := 0) (b := c) hy ⟨by omega, by omega⟩ hc) rfl rfl ⟨by decide, by decide⟩ ⟨Nat.le_refl _, Nat.le_refl _⟩ (Nat.le_of_ble_eq_true rfl) (am_rie ?_)
    refine am_ifB_eq (q := 18) (tgt := 22) C dX11_isPoint_15 (by decide) rfl (fun c2 => ?_) (fun c2 => ?_)
    · refine am_iconst (q := 23) (v := iZ 0) C dX11_isPoint_22 rfl rfl ?_
      refine am_zretB (b := false) C T dX11_isPoint_23 rfl (Nat.le_refl _) (Nat.le_refl _) rfl ⟨_, rfl, ?_⟩
      refine ⟨?_, rfl⟩
      first | (rw [if_neg (by omega)]; rfl) | (rw [if_pos (by omega)]; rfl)
    · refine am_iconst (q := 19) (v := iZ 1) C dX11_isPoint_18 rfl rfl ?_
      refine am_goto (q := 23) C dX11_isPoint_19 (by decide) ?_
      refine am_zretB (b := true) C T dX11_isPoint_23 rfl (Nat.le_refl _) (Nat.le_refl _) rfl ⟨_, rfl, ?_⟩
      refine ⟨?_, rfl⟩
      first | (rw [if_neg (by omega)]; rfl) | (rw [if_pos (by omega)]; rfl)
/-- the Model's table of ways: layer l for the parts from l on -/
def tabB (J : Nat → Nat → Int64) (cx cy : Nat) (t : PT) : Prop := ∀ l x y : Nat, l ≤ pm t → x ≤ cx → y ≤ cy → J 207 ((l * 61 + y) * 61 + x) = lN (Wy t (pm t - l) x y)
theorem kmul_next {k a : Nat} {x u : Int} (h : (k : Int) * (a : Int) = x - u) : ((k + 1 : Nat) : Int) * (a : Int) = x - (u - (a : Int)) := by
  rw [Int.natCast_add, Int.add_mul, h]; omega
set_option maxRecDepth 8000 in
theorem sp_X11_count {t : PT} (hA : atQ I J t) (hK : okP t) {cx cy : Nat} (hX : cx ≤ 60) (hY : cy ≤ 60) : am_S G mX11_count 2 0 0 [.ref 191, .int (iZ (cx : Int)), .int (iZ (cy : Int))] (215, kK, kR, I, J) (am_qv (fun w' => ∃ J' : Nat → Nat → Int64, w' = (215, kK, kR, I, J') ∧ (∀ h, h ≠ 207 → J' h = J h) ∧ tabB J' cx cy t)) := by
  have hm := hK.1
  refine am_spec (plainFor_of_name (by decide +kernel)) (Nat.le_of_ble_eq_true rfl) (L := [some (.ref 191), some (.int (iZ (cx : Int))), some (.int (iZ (cy : Int))), none, none, none, none, none, none]) rfl (fun X C T => ?_)
  have i1 : ∀ (fuel : Nat) (y x : Nat) (J1 : Nat → Nat → Int64), (y ≤ cy) → (x ≤ cx + 1) → (∀ h, h ≠ 207 → J1 h = J h) → (∀ l x1 y1 : Nat, l ≤ pm t → x1 ≤ cx → y1 ≤ cy → (l = pm t ∧ (y1 < y ∨ y1 = y ∧ x1 < x)) → J1 207 ((l * 61 + y1) * 61 + x1) = lN (Wy t (pm t - l) x1 y1)) → (62 - x) < fuel → (∀ (J2 : Nat → Nat → Int64), (∀ h, h ≠ 207 → J2 h = J h) → (∀ l x1 y1 : Nat, l ≤ pm t → x1 ≤ cx → y1 ≤ cy → (l = pm t ∧ y1 < y + 1) → J2 207 ((l * 61 + y1) * 61 + x1) = lN (Wy t (pm t - l) x1 y1)) → am_A G mX11_count X (am_rm 2 0 0) 51 [some (.ref 191), some (.int (iZ (cx : Int))), some (.int (iZ (cy : Int))), some (.int (iZ (y : Int))), none, none, none, none, none] [] (215, kK, kR, I, J2) 0 0) → am_A G mX11_count X (am_rm 2 0 0) 10 [some (.ref 191), some (.int (iZ (cx : Int))), some (.int (iZ (cy : Int))), some (.int (iZ (y : Int))), some (.int (iZ (x : Int))), none, none, none, none] [] (215, kK, kR, I, J1) 0 0 := by
    intro fuel
    induction fuel with
    | zero => intro y x J1 hy hx hJ hz hfu hk9; exact absurd hfu (Nat.not_lt_zero _)
    | succ fuel ih =>
      intro y x J1 hy hx hJ hz hfu hk9
      refine am_iload (q := 12) C dX11_count_10 rfl rfl ?_
      refine am_iload_n (q := 13) C dX11_count_12 rfl rfl ?_
      refine am_icmpZ_gt (q := 16) (tgt := 51) C dX11_count_13 (by decide) rfl ⟨by omega, by omega⟩ ⟨by omega, by omega⟩ (fun c1 => ?_) (fun c1 => ?_)
      · refine am_wkA (L1 := [some (.ref 191), some (.int (iZ (cx : Int))), some (.int (iZ (cy : Int))), some (.int (iZ (y : Int))), none, none, none, none, none]) ⟨rfl, ⟨rfl, ⟨rfl, ⟨rfl, trivial⟩⟩⟩⟩ ?_
        exact hk9 _ hJ (fun l x1 y1 g1 g2 g3 g4 => hz l x1 y1 g1 g2 g3 (by omega))
      · refine am_aload_n (q := 17) C dX11_count_16 rfl rfl ?_
        refine am_getR (q := 20) C fb_X11_62 dX11_count_17 rfl rfl kk_191 (show 191 < 215 by decide) kr_191_25 ?_
        refine am_aload_n (q := 21) C dX11_count_20 rfl rfl ?_
        refine am_getIe (q := 24) (v := (iZ (pm t : Int))) C fb_X11_86 dX11_count_21 rfl rfl kk_191 (show 191 < 215 by decide) hA.1 ?_
        refine am_iload (q := 26) C dX11_count_24 rfl rfl ?_
        refine am_iload_n (q := 27) C dX11_count_26 rfl rfl ?_
        refine am_callS (q := 30) (As := [.int (iZ (pm t : Int)), .int (iZ (x : Int)), .int (iZ (y : Int))]) (rest := [.ref 207]) C mb_X11_place st_X11_place ml_X11_171 dX11_count_27 rfl (sp_X11_place _ _ _) rfl rfl ⟨by decide, by decide⟩ ⟨Nat.le_refl _, Nat.le_refl _⟩ (Nat.le_of_ble_eq_true rfl) (am_rie ?_)
        refine am_iload (q := 32) C dX11_count_30 rfl rfl ?_
        refine am_ifZ_ne (q := 35) (tgt := 43) C dX11_count_32 (by decide) rfl ⟨by omega, by omega⟩ (fun c2 => ?_) (fun c2 => ?_)
        · refine am_lconst (q := 44) (v := lN 0) C dX11_count_43 rfl rfl ?_
          refine am_lastoreZ (q := 45) ((pm t * 61 + y) * 61 + x) C dX11_count_44 rfl kk_207 (show 207 < 215 by decide) (by omega) (by omega) (by decide) ?_
          refine am_iincZ (q := 48) (L' := [some (.ref 191), some (.int (iZ (cx : Int))), some (.int (iZ (cy : Int))), some (.int (iZ (y : Int))), some (.int (iZ ((x + 1 : Nat) : Int))), none, none, none, none]) C dX11_count_45 rfl rfl (by omega) (by decide) rfl rfl ?_
          refine am_goto (q := 10) C dX11_count_48 (by decide) ?_
          refine ih y (x + 1) _ hy (by omega) (fun h hh => by rw [am_up_row _ _ _ _ hh]; exact hJ h hh) (fun l x1 y1 g1 g2 g3 g4 => ?_) (by omega) hk9
          by_cases e : (l * 61 + y1) * 61 + x1 = (pm t * 61 + y) * 61 + x
          · have e1 : l = pm t := by omega
            have e2 : y1 = y := by omega
            have e3 : x1 = x := by omega
            subst e1; subst e2; subst e3
            rw [am_up_eq, Wy_end t (Nat.le_refl _)]
            exact congrArg lN (if_neg (fun z => by omega)).symm
          · rw [am_up_ne _ _ _ _ (Or.inr e)]; exact hz l x1 y1 g1 g2 g3 (by omega)
        · refine am_iload_n (q := 36) C dX11_count_35 rfl rfl ?_
          refine am_ifZ_ne (q := 39) (tgt := 43) C dX11_count_36 (by decide) rfl ⟨by omega, by omega⟩ (fun c3 => ?_) (fun c3 => ?_)
          · refine am_lconst (q := 44) (v := lN 0) C dX11_count_43 rfl rfl ?_
            refine am_lastoreZ (q := 45) ((pm t * 61 + y) * 61 + x) C dX11_count_44 rfl kk_207 (show 207 < 215 by decide) (by omega) (by omega) (by decide) ?_
            refine am_iincZ (q := 48) (L' := [some (.ref 191), some (.int (iZ (cx : Int))), some (.int (iZ (cy : Int))), some (.int (iZ (y : Int))), some (.int (iZ ((x + 1 : Nat) : Int))), none, none, none, none]) C dX11_count_45 rfl rfl (by omega) (by decide) rfl rfl ?_
            refine am_goto (q := 10) C dX11_count_48 (by decide) ?_
            refine ih y (x + 1) _ hy (by omega) (fun h hh => by rw [am_up_row _ _ _ _ hh]; exact hJ h hh) (fun l x1 y1 g1 g2 g3 g4 => ?_) (by omega) hk9
            by_cases e : (l * 61 + y1) * 61 + x1 = (pm t * 61 + y) * 61 + x
            · have e1 : l = pm t := by omega
              have e2 : y1 = y := by omega
              have e3 : x1 = x := by omega
              subst e1; subst e2; subst e3
              rw [am_up_eq, Wy_end t (Nat.le_refl _)]
              exact congrArg lN (if_neg (fun z => by omega)).symm
            · rw [am_up_ne _ _ _ _ (Or.inr e)]; exact hz l x1 y1 g1 g2 g3 (by omega)
          · refine am_lconst (q := 40) (v := lN 1) C dX11_count_39 rfl rfl ?_
            refine am_goto (q := 44) C dX11_count_40 (by decide) ?_
            refine am_lastoreZ (q := 45) ((pm t * 61 + y) * 61 + x) C dX11_count_44 rfl kk_207 (show 207 < 215 by decide) (by omega) (by omega) (by decide) ?_
            refine am_iincZ (q := 48) (L' := [some (.ref 191), some (.int (iZ (cx : Int))), some (.int (iZ (cy : Int))), some (.int (iZ (y : Int))), some (.int (iZ ((x + 1 : Nat) : Int))), none, none, none, none]) C dX11_count_45 rfl rfl (by omega) (by decide) rfl rfl ?_
            refine am_goto (q := 10) C dX11_count_48 (by decide) ?_
            refine ih y (x + 1) _ hy (by omega) (fun h hh => by rw [am_up_row _ _ _ _ hh]; exact hJ h hh) (fun l x1 y1 g1 g2 g3 g4 => ?_) (by omega) hk9
            by_cases e : (l * 61 + y1) * 61 + x1 = (pm t * 61 + y) * 61 + x
            · have e1 : l = pm t := by omega
              have e2 : y1 = y := by omega
              have e3 : x1 = x := by omega
              subst e1; subst e2; subst e3
              rw [am_up_eq, Wy_end t (Nat.le_refl _)]
              exact congrArg lN (if_pos ⟨by omega, by omega⟩).symm
            · rw [am_up_ne _ _ _ _ (Or.inr e)]; exact hz l x1 y1 g1 g2 g3 (by omega)
  have i2 : ∀ (fuel : Nat) (y : Nat) (J1 : Nat → Nat → Int64), (y ≤ cy + 1) → (∀ h, h ≠ 207 → J1 h = J h) → (∀ l x1 y1 : Nat, l ≤ pm t → x1 ≤ cx → y1 ≤ cy → (l = pm t ∧ y1 < y) → J1 207 ((l * 61 + y1) * 61 + x1) = lN (Wy t (pm t - l) x1 y1)) → (62 - y) < fuel → (∀ (J2 : Nat → Nat → Int64), (∀ h, h ≠ 207 → J2 h = J h) → (∀ l x1 y1 : Nat, l ≤ pm t → x1 ≤ cx → y1 ≤ cy → (l = pm t) → J2 207 ((l * 61 + y1) * 61 + x1) = lN (Wy t (pm t - l) x1 y1)) → am_A G mX11_count X (am_rm 2 0 0) 57 [some (.ref 191), some (.int (iZ (cx : Int))), some (.int (iZ (cy : Int))), none, none, none, none, none, none] [] (215, kK, kR, I, J2) 0 0) → am_A G mX11_count X (am_rm 2 0 0) 2 [some (.ref 191), some (.int (iZ (cx : Int))), some (.int (iZ (cy : Int))), some (.int (iZ (y : Int))), none, none, none, none, none] [] (215, kK, kR, I, J1) 0 0 := by
    intro fuel
    induction fuel with
    | zero => intro y J1 hy hJ hz hfu hk9; exact absurd hfu (Nat.not_lt_zero _)
    | succ fuel ih =>
      intro y J1 hy hJ hz hfu hk9
      refine am_iload_n (q := 3) C dX11_count_2 rfl rfl ?_
      refine am_iload_n (q := 4) C dX11_count_3 rfl rfl ?_
      refine am_icmpZ_gt (q := 7) (tgt := 57) C dX11_count_4 (by decide) rfl ⟨by omega, by omega⟩ ⟨by omega, by omega⟩ (fun c4 => ?_) (fun c4 => ?_)
      · refine am_wkA (L1 := [some (.ref 191), some (.int (iZ (cx : Int))), some (.int (iZ (cy : Int))), none, none, none, none, none, none]) ⟨rfl, ⟨rfl, ⟨rfl, trivial⟩⟩⟩ ?_
        exact hk9 _ hJ (fun l x1 y1 g1 g2 g3 g4 => hz l x1 y1 g1 g2 g3 (by omega))
      · refine am_iconst (q := 8) (v := iZ 0) C dX11_count_7 rfl rfl ?_
        refine am_istore (q := 10) (L' := [some (.ref 191), some (.int (iZ (cx : Int))), some (.int (iZ (cy : Int))), some (.int (iZ (y : Int))), some (.int (iZ 0)), none, none, none, none]) C dX11_count_8 rfl (by decide) rfl rfl ?_
        refine i1 63 y 0 _ (by omega) (by omega) hJ (fun l x1 y1 g1 g2 g3 g4 => hz l x1 y1 g1 g2 g3 (by omega)) (by omega) (fun J2 hJ hz => ?_)
        refine am_iincZ (q := 54) (L' := [some (.ref 191), some (.int (iZ (cx : Int))), some (.int (iZ (cy : Int))), some (.int (iZ ((y + 1 : Nat) : Int))), none, none, none, none, none]) C dX11_count_51 rfl rfl (by omega) (by decide) rfl rfl ?_
        refine am_goto (q := 2) C dX11_count_54 (by decide) ?_
        exact ih (y + 1) _ (by omega) hJ hz (by omega) hk9
  have x1 : ∀ (fuel : Nat) (p y x : Nat) (J1 : Nat → Nat → Int64), (p < pm t) → (y ≤ cy) → (x ≤ cx + 1) → (∀ h, h ≠ 207 → J1 h = J h) → (∀ l x1 y1 : Nat, l ≤ pm t → x1 ≤ cx → y1 ≤ cy → ((p < l ∨ l = p ∧ (y1 < y ∨ y1 = y ∧ x1 < x))) → J1 207 ((l * 61 + y1) * 61 + x1) = lN (Wy t (pm t - l) x1 y1)) → (62 - x) < fuel → (∀ (J2 : Nat → Nat → Int64), (∀ h, h ≠ 207 → J2 h = J h) → (∀ l x1 y1 : Nat, l ≤ pm t → x1 ≤ cx → y1 ≤ cy → (p < l ∨ l = p ∧ y1 < y + 1) → J2 207 ((l * 61 + y1) * 61 + x1) = lN (Wy t (pm t - l) x1 y1)) → am_A G mX11_count X (am_rm 2 0 0) 199 [some (.ref 191), some (.int (iZ (cx : Int))), some (.int (iZ (cy : Int))), some (.int (iZ (p : Int))), some (.int (iZ (y : Int))), none, none, none, none] [] (215, kK, kR, I, J2) 0 0) → am_A G mX11_count X (am_rm 2 0 0) 80 [some (.ref 191), some (.int (iZ (cx : Int))), some (.int (iZ (cy : Int))), some (.int (iZ (p : Int))), some (.int (iZ (y : Int))), some (.int (iZ (x : Int))), none, none, none] [] (215, kK, kR, I, J1) 0 0 := by
    intro fuel
    induction fuel with
    | zero => intro p y x J1 hp hy hx hJ hz hfu hk9; exact absurd hfu (Nat.not_lt_zero _)
    | succ fuel ih =>
      intro p y x J1 hp hy hx hJ hz hfu hk9
      refine am_iload (q := 82) C dX11_count_80 rfl rfl ?_
      refine am_iload_n (q := 83) C dX11_count_82 rfl rfl ?_
      refine am_icmpZ_gt (q := 86) (tgt := 199) C dX11_count_83 (by decide) rfl ⟨by omega, by omega⟩ ⟨by omega, by omega⟩ (fun g1 => ?_) (fun g1 => ?_)
      · refine am_wkA (L1 := [some (.ref 191), some (.int (iZ (cx : Int))), some (.int (iZ (cy : Int))), some (.int (iZ (p : Int))), some (.int (iZ (y : Int))), none, none, none, none]) ⟨rfl, ⟨rfl, ⟨rfl, ⟨rfl, ⟨rfl, trivial⟩⟩⟩⟩⟩ ?_
        exact hk9 _ hJ (fun l x1 y1 g1 g2 g3 g4 => hz l x1 y1 g1 g2 g3 (by omega))
      · refine am_lconst (q := 87) (v := lN 0) C dX11_count_86 rfl rfl ?_
        refine am_lstore (q := 89) (L' := [some (.ref 191), some (.int (iZ (cx : Int))), some (.int (iZ (cy : Int))), some (.int (iZ (p : Int))), some (.int (iZ (y : Int))), some (.int (iZ (x : Int))), some (.long (lN 0)), none, none]) C dX11_count_87 rfl (by decide) rfl rfl ?_
        refine am_iconst (q := 90) (v := iZ 0) C dX11_count_89 rfl rfl ?_
        refine am_istore (q := 92) (L' := [some (.ref 191), some (.int (iZ (cx : Int))), some (.int (iZ (cy : Int))), some (.int (iZ (p : Int))), some (.int (iZ (y : Int))), some (.int (iZ (x : Int))), some (.long (lN 0)), none, some (.int (iZ 0))]) C dX11_count_90 rfl (by decide) rfl rfl ?_
        have hab := (hK.2 p hp).2.2.1
        have ha4 := (hK.2 p hp).1
        have hb4 := (hK.2 p hp).2.1
        have k1 : ∀ (fuel : Nat) (k n : Nat) (u v : Int) (s : Nat), (-4 ≤ u ∧ u ≤ (x : Int)) → (-4 ≤ v ∧ v ≤ (y : Int)) → (pa t p = 0 ∨ u + (k : Int) ≤ 60) → (pb t p = 0 ∨ v + (k : Int) ≤ 60) → ((k : Int) * (pa t p : Int) = (x : Int) - u) → ((k : Int) * (pb t p : Int) = (y : Int) - v) → (k + n = 61) → (s + (if 0 ≤ u ∧ 0 ≤ v then wsm (Wy t (pm t - (p + 1))) (ps t p) (pa t p) (pb t p) n k u.toNat v.toNat else 0) = Wy t (pm t - p) x y) → (61 - k) < fuel → (am_A G mX11_count X (am_rm 2 0 0) 178 [some (.ref 191), some (.int (iZ (cx : Int))), some (.int (iZ (cy : Int))), some (.int (iZ (p : Int))), some (.int (iZ (y : Int))), some (.int (iZ (x : Int))), some (.long (lN (Wy t (pm t - p) x y))), none, none] [] (215, kK, kR, I, J1) 0 0) → am_A G mX11_count X (am_rm 2 0 0) 92 [some (.ref 191), some (.int (iZ (cx : Int))), some (.int (iZ (cy : Int))), some (.int (iZ (p : Int))), some (.int (iZ (y : Int))), some (.int (iZ (x : Int))), some (.long (lN s)), none, some (.int (iZ (k : Int)))] [] (215, kK, kR, I, J1) 0 0 := by
          intro fuel
          induction fuel with
          | zero => intro k n u v s hu hv hd1 hd2 hku hkv hn hs hfu hk9; exact absurd hfu (Nat.not_lt_zero _)
          | succ fuel ih =>
            intro k n u v s hu hv hd1 hd2 hku hkv hn hs hfu hk9
            refine am_iload (q := 94) C dX11_count_92 rfl rfl ?_
            refine am_aload_n (q := 95) C dX11_count_94 rfl rfl ?_
            refine am_getR (q := 98) C fb_X11_15 dX11_count_95 rfl rfl kk_191 (show 191 < 215 by decide) kr_191_4 ?_
            refine am_iload_n (q := 99) C dX11_count_98 rfl rfl ?_
            refine am_ialoadZ (q := 100) p C dX11_count_99 rfl kk_192 (show 192 < 215 by decide) rfl (by omega) (by decide) ?_
            refine am_intE (y := (iZ (pa t p : Int))) (hA.2 p hp).1 ?_
            refine am_imulZ (q := 101) C dX11_count_100 rfl ?_
            refine am_intE (y := (iZ ((x : Int) - u))) (congrArg iZ hku) ?_
            refine am_iload (q := 103) C dX11_count_101 rfl rfl ?_
            refine am_icmpZ_gt (q := 106) (tgt := 178) C dX11_count_103 (by decide) rfl ⟨by omega, by omega⟩ ⟨by omega, by omega⟩ (fun q1 => ?_) (fun q1 => ?_)
            · refine am_wkA (L1 := [some (.ref 191), some (.int (iZ (cx : Int))), some (.int (iZ (cy : Int))), some (.int (iZ (p : Int))), some (.int (iZ (y : Int))), some (.int (iZ (x : Int))), some (.long (lN s)), none, none]) ⟨rfl, ⟨rfl, ⟨rfl, ⟨rfl, ⟨rfl, ⟨rfl, ⟨rfl, trivial⟩⟩⟩⟩⟩⟩⟩ ?_
              have e9 := wsm_done (by omega) hs
              subst e9
              exact hk9
            · refine am_iload (q := 108) C dX11_count_106 rfl rfl ?_
              refine am_aload_n (q := 109) C dX11_count_108 rfl rfl ?_
              refine am_getR (q := 112) C fb_X11_19 dX11_count_109 rfl rfl kk_191 (show 191 < 215 by decide) kr_191_5 ?_
              refine am_iload_n (q := 113) C dX11_count_112 rfl rfl ?_
              refine am_ialoadZ (q := 114) p C dX11_count_113 rfl kk_193 (show 193 < 215 by decide) rfl (by omega) (by decide) ?_
              refine am_intE (y := (iZ (pb t p : Int))) (hA.2 p hp).2.1 ?_
              refine am_imulZ (q := 115) C dX11_count_114 rfl ?_
              refine am_intE (y := (iZ ((y : Int) - v))) (congrArg iZ hkv) ?_
              refine am_iload (q := 117) C dX11_count_115 rfl rfl ?_
              refine am_icmpZ_gt (q := 120) (tgt := 178) C dX11_count_117 (by decide) rfl ⟨by omega, by omega⟩ ⟨by omega, by omega⟩ (fun q2 => ?_) (fun q2 => ?_)
              · refine am_wkA (L1 := [some (.ref 191), some (.int (iZ (cx : Int))), some (.int (iZ (cy : Int))), some (.int (iZ (p : Int))), some (.int (iZ (y : Int))), some (.int (iZ (x : Int))), some (.long (lN s)), none, none]) ⟨rfl, ⟨rfl, ⟨rfl, ⟨rfl, ⟨rfl, ⟨rfl, ⟨rfl, trivial⟩⟩⟩⟩⟩⟩⟩ ?_
                have e9 := wsm_done (by omega) hs
                subst e9
                exact hk9
              · refine am_lload (q := 122) C dX11_count_120 rfl rfl ?_
                refine am_aload_n (q := 123) C dX11_count_122 rfl rfl ?_
                refine am_getR (q := 126) C fb_X11_25 dX11_count_123 rfl rfl kk_191 (show 191 < 215 by decide) kr_191_7 ?_
                refine am_iload_n (q := 127) C dX11_count_126 rfl rfl ?_
                refine am_laloadZ (q := 128) p C dX11_count_127 rfl kk_195 (show 195 < 215 by decide) rfl (by omega) (by decide) ?_
                refine am_longE (y := (lN (ps t p))) (by rw [hJ 195 (by decide)]; exact (hA.2 p hp).2.2.2) ?_
                refine am_iload (q := 130) C dX11_count_128 rfl rfl ?_
                refine am_lshr (q := 131) C dX11_count_130 rfl ?_
                refine am_lconst (q := 132) (v := lN 1) C dX11_count_131 rfl rfl ?_
                refine am_land (q := 133) C dX11_count_132 rfl ?_
                refine am_longE (y := (lN (bitOf (ps t p) k))) (bit_M (k := (k : Int)) (hK.2 p hp).2.2.2.2.2 (by omega)) ?_
                refine am_aload_n (q := 134) C dX11_count_133 rfl rfl ?_
                refine am_getR (q := 137) C fb_X11_62 dX11_count_134 rfl rfl kk_191 (show 191 < 215 by decide) kr_191_25 ?_
                refine am_iload_n (q := 138) C dX11_count_137 rfl rfl ?_
                refine am_iconst (q := 139) (v := iZ 1) C dX11_count_138 rfl rfl ?_
                refine am_iaddZ (q := 140) C dX11_count_139 rfl ?_
                refine am_intE (y := (iZ ((p + 1 : Nat) : Int))) (congrArg iZ (by omega)) ?_
                refine am_iload (q := 142) C dX11_count_140 rfl rfl ?_
                refine am_iload (q := 144) C dX11_count_142 rfl rfl ?_
                refine am_aload_n (q := 145) C dX11_count_144 rfl rfl ?_
                refine am_getR (q := 148) C fb_X11_15 dX11_count_145 rfl rfl kk_191 (show 191 < 215 by decide) kr_191_4 ?_
                refine am_iload_n (q := 149) C dX11_count_148 rfl rfl ?_
                refine am_ialoadZ (q := 150) p C dX11_count_149 rfl kk_192 (show 192 < 215 by decide) rfl (by omega) (by decide) ?_
                refine am_intE (y := (iZ (pa t p : Int))) (hA.2 p hp).1 ?_
                refine am_imulZ (q := 151) C dX11_count_150 rfl ?_
                refine am_intE (y := (iZ ((x : Int) - u))) (congrArg iZ hku) ?_
                refine am_isubZ (q := 152) C dX11_count_151 rfl ?_
                refine am_intE (y := (iZ u)) (congrArg iZ (by omega)) ?_
                refine am_iload (q := 154) C dX11_count_152 rfl rfl ?_
                refine am_iload (q := 156) C dX11_count_154 rfl rfl ?_
                refine am_aload_n (q := 157) C dX11_count_156 rfl rfl ?_
                refine am_getR (q := 160) C fb_X11_19 dX11_count_157 rfl rfl kk_191 (show 191 < 215 by decide) kr_191_5 ?_
                refine am_iload_n (q := 161) C dX11_count_160 rfl rfl ?_
                refine am_ialoadZ (q := 162) p C dX11_count_161 rfl kk_193 (show 193 < 215 by decide) rfl (by omega) (by decide) ?_
                refine am_intE (y := (iZ (pb t p : Int))) (hA.2 p hp).2.1 ?_
                refine am_imulZ (q := 163) C dX11_count_162 rfl ?_
                refine am_intE (y := (iZ ((y : Int) - v))) (congrArg iZ hkv) ?_
                refine am_isubZ (q := 164) C dX11_count_163 rfl ?_
                refine am_intE (y := (iZ v)) (congrArg iZ (by omega)) ?_
                refine am_callS (q := 167) (As := [.int (iZ ((p + 1 : Nat) : Int)), .int (iZ u), .int (iZ v)]) (rest := [.ref 207, .long (lN (bitOf (ps t p) k)), .long (lN s)]) C mb_X11_place st_X11_place ml_X11_171 dX11_count_164 rfl (sp_X11_place _ _ _) rfl rfl ⟨by decide, by decide⟩ ⟨Nat.le_refl _, Nat.le_refl _⟩ (Nat.le_of_ble_eq_true rfl) (am_rie ?_)
                refine am_laloadZ (q := 168) (((p + 1) * 61 + v.toNat) * 61 + u.toNat) C dX11_count_167 rfl kk_207 (show 207 < 215 by decide) (by omega) (by omega) (by decide) ?_
                refine am_longE (y := (lN (Wy t (pm t - (p + 1)) u.toNat v.toNat))) (hz (p + 1) u.toNat v.toNat (by omega) (by omega) (by omega) (Or.inl (by omega))) ?_
                refine am_lmul (q := 169) C dX11_count_168 rfl ?_
                refine am_longE (lN_mul _ _) ?_
                refine am_ladd (q := 170) C dX11_count_169 rfl ?_
                refine am_longE (lN_add _ _) ?_
                refine am_lstore (q := 172) (L' := [some (.ref 191), some (.int (iZ (cx : Int))), some (.int (iZ (cy : Int))), some (.int (iZ (p : Int))), some (.int (iZ (y : Int))), some (.int (iZ (x : Int))), some (.long (lN (s + ((bitOf (ps t p) k) * (Wy t (pm t - (p + 1)) u.toNat v.toNat))))), none, some (.int (iZ (k : Int)))]) C dX11_count_170 rfl (by decide) rfl rfl ?_
                refine am_iincZ (q := 175) (L' := [some (.ref 191), some (.int (iZ (cx : Int))), some (.int (iZ (cy : Int))), some (.int (iZ (p : Int))), some (.int (iZ (y : Int))), some (.int (iZ (x : Int))), some (.long (lN (s + ((bitOf (ps t p) k) * (Wy t (pm t - (p + 1)) u.toNat v.toNat))))), none, some (.int (iZ ((k + 1 : Nat) : Int)))]) C dX11_count_172 rfl rfl (by omega) (by decide) rfl rfl ?_
                refine am_goto (q := 92) C dX11_count_175 (by decide) ?_
                obtain ⟨n2, hn2, hs2⟩ := wsm_next hn (u := u) (v := v) (by omega) ⟨by omega, by omega⟩ (s := s) rfl hs
                exact ih (k + 1) n2 (u - (pa t p : Int)) (v - (pb t p : Int)) _ (by omega) (by omega) (by omega) (by omega) (kmul_next hku) (kmul_next hkv) hn2 hs2 (by omega) hk9
        refine k1 62 0 61 (x : Int) (y : Int) 0 (by omega) (by omega) (by omega) (by omega) (by omega) (by omega) rfl ?_ (by omega) ?_
        · rw [if_pos (by omega), Wy_part t hp, Nat.zero_add, Int.toNat_natCast, Int.toNat_natCast]
        refine am_aload_n (q := 179) C dX11_count_178 rfl rfl ?_
        refine am_getR (q := 182) C fb_X11_62 dX11_count_179 rfl rfl kk_191 (show 191 < 215 by decide) kr_191_25 ?_
        refine am_iload_n (q := 183) C dX11_count_182 rfl rfl ?_
        refine am_iload (q := 185) C dX11_count_183 rfl rfl ?_
        refine am_iload (q := 187) C dX11_count_185 rfl rfl ?_
        refine am_callS (q := 190) (As := [.int (iZ (p : Int)), .int (iZ (x : Int)), .int (iZ (y : Int))]) (rest := [.ref 207]) C mb_X11_place st_X11_place ml_X11_171 dX11_count_187 rfl (sp_X11_place _ _ _) rfl rfl ⟨by decide, by decide⟩ ⟨Nat.le_refl _, Nat.le_refl _⟩ (Nat.le_of_ble_eq_true rfl) (am_rie ?_)
        refine am_lload (q := 192) C dX11_count_190 rfl rfl ?_
        refine am_lastoreZ (q := 193) ((p * 61 + y) * 61 + x) C dX11_count_192 rfl kk_207 (show 207 < 215 by decide) (by omega) (by omega) (by decide) ?_
        refine am_iincZ (q := 196) (L' := [some (.ref 191), some (.int (iZ (cx : Int))), some (.int (iZ (cy : Int))), some (.int (iZ (p : Int))), some (.int (iZ (y : Int))), some (.int (iZ ((x + 1 : Nat) : Int))), some (.long (lN (Wy t (pm t - p) x y))), none, none]) C dX11_count_193 rfl rfl (by omega) (by decide) rfl rfl ?_
        refine am_goto (q := 80) C dX11_count_196 (by decide) ?_
        refine am_wkA (L1 := [some (.ref 191), some (.int (iZ (cx : Int))), some (.int (iZ (cy : Int))), some (.int (iZ (p : Int))), some (.int (iZ (y : Int))), some (.int (iZ ((x + 1 : Nat) : Int))), none, none, none]) ⟨rfl, ⟨rfl, ⟨rfl, ⟨rfl, ⟨rfl, ⟨rfl, trivial⟩⟩⟩⟩⟩⟩ ?_
        refine ih p y (x + 1) _ hp hy (by omega) (fun h hh => by rw [am_up_row _ _ _ _ hh]; exact hJ h hh) (fun l x1 y1 g1 g2 g3 g4 => ?_) (by omega) hk9
        by_cases e : (l * 61 + y1) * 61 + x1 = (p * 61 + y) * 61 + x
        · have e1 : l = p := by omega
          have e2 : y1 = y := by omega
          have e3 : x1 = x := by omega
          subst e1; subst e2; subst e3
          exact am_up_eq _ _ _ _
        · rw [am_up_ne _ _ _ _ (Or.inr e)]; exact hz l x1 y1 g1 g2 g3 (by omega)
  have y1 : ∀ (fuel : Nat) (p y : Nat) (J1 : Nat → Nat → Int64), (p < pm t) → (y ≤ cy + 1) → (∀ h, h ≠ 207 → J1 h = J h) → (∀ l x1 y1 : Nat, l ≤ pm t → x1 ≤ cx → y1 ≤ cy → (p < l ∨ l = p ∧ y1 < y) → J1 207 ((l * 61 + y1) * 61 + x1) = lN (Wy t (pm t - l) x1 y1)) → (62 - y) < fuel → (∀ (J2 : Nat → Nat → Int64), (∀ h, h ≠ 207 → J2 h = J h) → (∀ l x1 y1 : Nat, l ≤ pm t → x1 ≤ cx → y1 ≤ cy → (p ≤ l) → J2 207 ((l * 61 + y1) * 61 + x1) = lN (Wy t (pm t - l) x1 y1)) → am_A G mX11_count X (am_rm 2 0 0) 205 [some (.ref 191), some (.int (iZ (cx : Int))), some (.int (iZ (cy : Int))), some (.int (iZ (p : Int))), none, none, none, none, none] [] (215, kK, kR, I, J2) 0 0) → am_A G mX11_count X (am_rm 2 0 0) 71 [some (.ref 191), some (.int (iZ (cx : Int))), some (.int (iZ (cy : Int))), some (.int (iZ (p : Int))), some (.int (iZ (y : Int))), none, none, none, none] [] (215, kK, kR, I, J1) 0 0 := by
    intro fuel
    induction fuel with
    | zero => intro p y J1 hp hy hJ hz hfu hk9; exact absurd hfu (Nat.not_lt_zero _)
    | succ fuel ih =>
      intro p y J1 hp hy hJ hz hfu hk9
      refine am_iload (q := 73) C dX11_count_71 rfl rfl ?_
      refine am_iload_n (q := 74) C dX11_count_73 rfl rfl ?_
      refine am_icmpZ_gt (q := 77) (tgt := 205) C dX11_count_74 (by decide) rfl ⟨by omega, by omega⟩ ⟨by omega, by omega⟩ (fun g1 => ?_) (fun g1 => ?_)
      · refine am_wkA (L1 := [some (.ref 191), some (.int (iZ (cx : Int))), some (.int (iZ (cy : Int))), some (.int (iZ (p : Int))), none, none, none, none, none]) ⟨rfl, ⟨rfl, ⟨rfl, ⟨rfl, trivial⟩⟩⟩⟩ ?_
        exact hk9 _ hJ (fun l x1 y1 g1 g2 g3 g4 => hz l x1 y1 g1 g2 g3 (by omega))
      · refine am_iconst (q := 78) (v := iZ 0) C dX11_count_77 rfl rfl ?_
        refine am_istore (q := 80) (L' := [some (.ref 191), some (.int (iZ (cx : Int))), some (.int (iZ (cy : Int))), some (.int (iZ (p : Int))), some (.int (iZ (y : Int))), some (.int (iZ 0)), none, none, none]) C dX11_count_78 rfl (by decide) rfl rfl ?_
        refine x1 63 p y 0 _ hp (by omega) (by omega) hJ (fun l x1 y1 g1 g2 g3 g4 => hz l x1 y1 g1 g2 g3 (by omega)) (by omega) (fun J2 hJ hz => ?_)
        refine am_iincZ (q := 202) (L' := [some (.ref 191), some (.int (iZ (cx : Int))), some (.int (iZ (cy : Int))), some (.int (iZ (p : Int))), some (.int (iZ ((y + 1 : Nat) : Int))), none, none, none, none]) C dX11_count_199 rfl rfl (by omega) (by decide) rfl rfl ?_
        refine am_goto (q := 71) C dX11_count_202 (by decide) ?_
        exact ih p (y + 1) _ hp (by omega) hJ hz (by omega) hk9
  have lp : ∀ (fuel : Nat) (p : Int) (J1 : Nat → Nat → Int64), (-1 ≤ p ∧ p < pm t) → (∀ h, h ≠ 207 → J1 h = J h) → (∀ l x1 y1 : Nat, l ≤ pm t → x1 ≤ cx → y1 ≤ cy → (p < (l : Int)) → J1 207 ((l * 61 + y1) * 61 + x1) = lN (Wy t (pm t - l) x1 y1)) → ((p + 1).toNat) < fuel → am_A G mX11_count X (am_rm 2 0 0) 64 [some (.ref 191), some (.int (iZ (cx : Int))), some (.int (iZ (cy : Int))), some (.int (iZ p)), none, none, none, none, none] [] (215, kK, kR, I, J1) 0 0 := by
    intro fuel
    induction fuel with
    | zero => intro p J1 hp0 hJ hz hf; exact absurd hf (Nat.not_lt_zero _)
    | succ fuel ih =>
      intro p J1 hp0 hJ hz hf
      refine am_iload_n (q := 65) C dX11_count_64 rfl rfl ?_
      refine am_ifZ_lt (q := 68) (tgt := 211) C dX11_count_65 (by decide) rfl ⟨by omega, by omega⟩ (fun g1 => ?_) (fun g1 => ?_)
      · refine am_vret C T dX11_count_211 rfl (Nat.le_refl _) (Nat.le_refl _) ⟨rfl, ?_⟩
        exact ⟨_, rfl, hJ, fun l x y g1 g2 g3 => hz l x y g1 g2 g3 (by omega)⟩
      · obtain ⟨p, rfl⟩ : ∃ q : Nat, p = q := ⟨p.toNat, by omega⟩
        have hp : p < pm t := by omega
        refine am_iconst (q := 69) (v := iZ 0) C dX11_count_68 rfl rfl ?_
        refine am_istore (q := 71) (L' := [some (.ref 191), some (.int (iZ (cx : Int))), some (.int (iZ (cy : Int))), some (.int (iZ (p : Int))), some (.int (iZ 0)), none, none, none, none]) C dX11_count_69 rfl (by decide) rfl rfl ?_
        refine y1 63 p 0 _ hp (by omega) hJ (fun l x1 y1 g1 g2 g3 g4 => hz l x1 y1 g1 g2 g3 (by omega)) (by omega) (fun J2 hJ hz => ?_)
        refine am_iincZ (q := 208) (L' := [some (.ref 191), some (.int (iZ (cx : Int))), some (.int (iZ (cy : Int))), some (.int (iZ ((p : Int) - 1))), none, none, none, none, none]) C dX11_count_205 rfl rfl (by omega) (by decide) rfl rfl ?_
        refine am_goto (q := 64) C dX11_count_208 (by decide) ?_
        exact ih ((p : Int) - 1) _ (by omega) hJ (fun l x1 y1 g1 g2 g3 g4 => hz l x1 y1 g1 g2 g3 (by omega)) (by omega)
  refine am_iconst (q := 1) (v := iZ 0) C dX11_count_0 rfl rfl ?_
  refine am_istore_n (q := 2) (L' := [some (.ref 191), some (.int (iZ (cx : Int))), some (.int (iZ (cy : Int))), some (.int (iZ 0)), none, none, none, none, none]) C dX11_count_1 rfl (by decide) rfl rfl ?_
  refine i2 63 0 J (by omega) (fun h _ => rfl) (fun l x1 y1 g1 g2 g3 g4 => absurd g4 (by omega)) (by omega) (fun J2 hJ hz => ?_)
  refine am_aload_n (q := 58) C dX11_count_57 rfl rfl ?_
  refine am_getIe (q := 61) (v := (iZ (pm t : Int))) C fb_X11_86 dX11_count_58 rfl rfl kk_191 (show 191 < 215 by decide) hA.1 ?_
  refine am_iconst (q := 62) (v := iZ 1) C dX11_count_61 rfl rfl ?_
  refine am_isubZ (q := 63) C dX11_count_62 rfl ?_
  refine am_istore_n (q := 64) (L' := [some (.ref 191), some (.int (iZ (cx : Int))), some (.int (iZ (cy : Int))), some (.int (iZ ((pm t : Int) - 1))), none, none, none, none, none]) C dX11_count_63 rfl (by decide) rfl rfl ?_
  exact lp (pm t + 2) ((pm t : Int) - 1) J2 (by omega) hJ (fun l x1 y1 g1 g2 g3 g4 => hz l x1 y1 g1 g2 g3 (by omega)) (by omega)
theorem atM_J207 {σ : SG} {J' : Nat → Nat → Int64} (h : ∀ x, x ≠ 207 → J' x = J x) : frS I J I J' := ⟨fun _ _ => rfl, fun x h1 h2 => ⟨rfl, h x (by omega)⟩⟩
set_option maxRecDepth 4000 in
theorem sp_X11_ways {σ : SG} (hM : atM I J σ) {x y : Int} (hx : rg x) (hy : rg y) : am_S G mX11_ways 3 0 0 [.ref 191, .int (iZ x), .int (iZ y)] (215, kK, kR, I, J) (am_ql (fun v w' => v = (if 0 ≤ x ∧ x ≤ 60 ∧ 0 ≤ y ∧ y ≤ 60 then lN (Wy σ.1 (pm σ.1) x.toNat y.toNat) else (-9223372036854775808)) ∧ ∃ (I' : Nat → Nat → Int32) (J' : Nat → Nat → Int64), w' = (215, kK, kR, I', J') ∧ atM I' J' (σ) ∧ frM I J I' J')) := by
  refine am_spec (plainFor_of_name (by decide +kernel)) (Nat.le_of_ble_eq_true rfl) (L := [some (.ref 191), some (.int (iZ x)), some (.int (iZ y))]) rfl (fun X C T => ?_)
  refine am_iload_n (q := 1) C dX11_ways_0 rfl rfl ?_
  refine am_iload_n (q := 2) C dX11_ways_1 rfl rfl ?_
  refine am_bipush (q := 4) (v := iZ 60) C dX11_ways_2 rfl rfl ?_
  refine am_callS (q := 7) (As := [.int (iZ x), .int (iZ y), .int (iZ 60)]) (rest := []) C mb_X11_isPoint st_X11_isPoint ml_X11_175 dX11_ways_4 rfl (sp_X11_isPoint (c := 60) hx hy ⟨by omega, by omega⟩) rfl rfl ⟨by decide, by decide⟩ ⟨Nat.le_refl _, Nat.le_refl _⟩ (Nat.le_of_ble_eq_true rfl) (am_rie ?_)
  refine am_ifB_ne (q := 10) (tgt := 14) C dX11_ways_7 (by decide) rfl (fun c1 => ?_) (fun c1 => ?_)
  · obtain ⟨x1, rfl⟩ : ∃ q : Nat, x = q := ⟨x.toNat, by omega⟩
    obtain ⟨y1, rfl⟩ : ∃ q : Nat, y = q := ⟨y.toNat, by omega⟩
    refine am_aload_n (q := 15) C dX11_ways_14 rfl rfl ?_
    refine am_iload_n (q := 16) C dX11_ways_15 rfl rfl ?_
    refine am_iload_n (q := 17) C dX11_ways_16 rfl rfl ?_
    refine am_callV (q := 20) (As := [.int (iZ (x1 : Int)), .int (iZ (y1 : Int))]) (rest := []) C mb_X11_count im_X11_count se_X11_count ml_X11_180 cb_11 kk_191 (show 191 < 215 by decide) dX11_ways_17 rfl (sp_X11_count hM.1 hM.2.1 (cx := x1) (cy := y1) (by omega) (by omega)) rfl rfl ⟨by decide, by decide⟩ ⟨Nat.le_refl _, Nat.le_refl _⟩ (Nat.le_of_ble_eq_true rfl) (am_rv (fun w' hw' => ?_))
    obtain ⟨J1, rfl, hJ1, hT1⟩ := hw'
    refine am_aload_n (q := 21) C dX11_ways_20 rfl rfl ?_
    refine am_getR (q := 24) C fb_X11_62 dX11_ways_21 rfl rfl kk_191 (show 191 < 215 by decide) kr_191_25 ?_
    refine am_iconst (q := 25) (v := iZ 0) C dX11_ways_24 rfl rfl ?_
    refine am_iload_n (q := 26) C dX11_ways_25 rfl rfl ?_
    refine am_iload_n (q := 27) C dX11_ways_26 rfl rfl ?_
    refine am_callS (q := 30) (As := [.int (iZ 0), .int (iZ (x1 : Int)), .int (iZ (y1 : Int))]) (rest := [.ref 207]) C mb_X11_place st_X11_place ml_X11_171 dX11_ways_27 rfl (sp_X11_place _ _ _) rfl rfl ⟨by decide, by decide⟩ ⟨Nat.le_refl _, Nat.le_refl _⟩ (Nat.le_of_ble_eq_true rfl) (am_rie ?_)
    refine am_laloadZ (q := 31) ((0 * 61 + y1) * 61 + x1) C dX11_ways_30 rfl kk_207 (show 207 < 215 by decide) (by omega) (by omega) (by decide) ?_
    refine am_longE (y := (lN (Wy σ.1 (pm σ.1) x1 y1))) (hT1 0 x1 y1 (by omega) (by omega) (by omega)) ?_
    refine am_lret C T dX11_ways_31 rfl (Nat.le_refl _) (Nat.le_refl _) ⟨_, rfl, ?_⟩
    rw [if_pos (by omega)]
    exact ⟨rfl, _, _, rfl, hM.scr (atM_J207 (σ := σ) hJ1), (atM_J207 (σ := σ) hJ1).M⟩
  · refine am_ldc2 (q := 13) C dX11_ways_10 rfl ck_X11_178 ?_
    refine am_lret C T dX11_ways_13 rfl (Nat.le_refl _) (Nat.le_refl _) ⟨_, rfl, ?_⟩
    rw [if_neg (by omega)]
    exact ⟨rfl, _, _, rfl, hM, frM_refl⟩
