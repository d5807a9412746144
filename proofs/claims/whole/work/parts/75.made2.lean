variable {G : am_G} {Rf : Nat → Nat → Option Nat} {I : Nat → Nat → Int32} {J : Nat → Nat → Int64}
def st0 (N : Nat) (l : List (Option Nat)) (Rf : Nat → Nat → Option Nat) (I : Nat → Nat → Int32) (J : Nat → Nat → Int64) : Prop := Rf 0 = (fun k => l.getD k none) ∧ I 0 = zI ∧ J 0 = zJ ∧ don 1 N Rf I J ∧ fre N Rf I J
theorem stp {N e k : Nat} {l : List (Option Nat)} {R' : Nat → Nat → Option Nat} {I' : Nat → Nat → Int32} {J' : Nat → Nat → Int64} (h : st0 N l Rf I J) (hl : lay N e Rf I J R' I' J') (hk : k < l.length) (hN : 1 ≤ N) (hNe : N ≤ e) : st0 e (l.set k (some N)) (am_up R' 0 k (some N)) I' J' := by
  obtain ⟨h1, h2, h3, h4, h5⟩ := h
  obtain ⟨l1, l2, l3⟩ := hl
  refine ⟨?_, (l1 0 hN).2.1.trans h2, (l1 0 hN).2.2.trans h3, fun x g1 g2 => ?_, fun x hx => ?_⟩
  · rw [am_upR, (l1 0 hN).1, h1, up1_get _ _ _ _ hk]
  · rw [am_up_row _ _ _ _ (by omega)]
    by_cases e9 : x < N
    · exact ⟨(l1 x e9).1.trans (h4 x g1 e9).1, (l1 x e9).2.1.trans (h4 x g1 e9).2.1, (l1 x e9).2.2.trans (h4 x g1 e9).2.2⟩
    · exact l2 x (by omega) g2
  · rw [am_up_row _ _ _ _ (by omega)]
    exact l3 x hx
def shI (i : Nat) (R1 : Nat → Nat → Option Nat) (I1 : Nat → Nat → Int32) (J1 : Nat → Nat → Int64) : Prop := don 0 182 R1 I1 J1 ∧ (R1 182 = (fun k => if k < i then some (183 + 2 * k) else none) ∧ I1 182 = zI ∧ J1 182 = zJ) ∧ don 183 (183 + 2 * i) R1 I1 J1 ∧ fre (183 + 2 * i) R1 I1 J1
theorem shI_step {i : Nat} (hi : i < 4) {R1 R2 : Nat → Nat → Option Nat} {I1 I2 : Nat → Nat → Int32} {J1 J2 : Nat → Nat → Int64} (h : shI i R1 I1 J1) (hl : lay (183 + 2 * i) (183 + 2 * i + 2) R1 I1 J1 R2 I2 J2) : shI (i + 1) (am_up R2 182 i (some (183 + 2 * i))) I2 J2 := by
  obtain ⟨h2, ⟨h3, h4, h5⟩, h6, h7⟩ := h
  obtain ⟨l1, l2, l3⟩ := hl
  refine ⟨fun x g1 g2 => ?_, ⟨?_, ?_, ?_⟩, fun x g1 g2 => ?_, fun x hx => ?_⟩
  · rw [am_up_row _ _ _ _ (by omega)]
    exact ⟨(l1 x (by omega)).1.trans (h2 x g1 g2).1, (l1 x (by omega)).2.1.trans (h2 x g1 g2).2.1, (l1 x (by omega)).2.2.trans (h2 x g1 g2).2.2⟩
  · rw [am_upR, (l1 182 (by omega)).1, h3]
    exact up1_if (g := fun k => some (183 + 2 * k)) i
  · exact (l1 182 (by omega)).2.1.trans h4
  · exact (l1 182 (by omega)).2.2.trans h5
  · rw [am_up_row _ _ _ _ (by omega)]
    by_cases e : x < 183 + 2 * i
    · exact ⟨(l1 x e).1.trans (h6 x g1 e).1, (l1 x e).2.1.trans (h6 x g1 e).2.1, (l1 x e).2.2.trans (h6 x g1 e).2.2⟩
    · exact l2 x (by omega) (by omega)
  · rw [am_up_row _ _ _ _ (by omega)]
    exact l3 x (by omega)
set_option maxRecDepth 8000 in
theorem sp_X10_init (hf : fre 0 Rf I J) : am_S G mX10_init 3 190 49158 [.ref 0] (1, kK, Rf, I, J) (am_qv (fun w' => ∃ (Rf' : Nat → Nat → Option Nat) (I' : Nat → Nat → Int32) (J' : Nat → Nat → Int64), w' = (191, kK, Rf', I', J') ∧ lay 0 191 Rf I J Rf' I' J')) := by
  refine am_spec (plainFor_of_name (by decide +kernel)) (Nat.le_of_ble_eq_true rfl) (L := [some (.ref 0), none]) rfl (fun X C T => ?_)
  have lp : ∀ (fuel i : Nat) (R1 : Nat → Nat → Option Nat) (I1 : Nat → Nat → Int32) (J1 : Nat → Nat → Int64), i ≤ 4 → shI i R1 I1 J1 → 5 - i < fuel → am_A G mX10_init X (am_rm 3 190 49158) 139 [some (.ref 0), some (.int (iZ (i : Int)))] [] (183 + 2 * i, kK, R1, I1, J1) (182 + 2 * i) (48906 + 63 * i) := by
    intro fuel
    induction fuel with
    | zero => intro i R1 I1 J1 _ _ h; exact absurd h (Nat.not_lt_zero _)
    | succ fuel ih =>
      intro i R1 I1 J1 hi hI hfu
      have hI9 := hI
      obtain ⟨h2, ⟨h3, h4, h5⟩, h6, h7⟩ := hI
      refine am_iload_n (q := 140) C dX10_init_139 rfl rfl ?_
      refine am_iconst (q := 141) (v := iZ 4) C dX10_init_140 rfl rfl ?_
      refine am_icmpZ_ge (q := 144) (tgt := 163) C dX10_init_141 (by decide) rfl ⟨by omega, by omega⟩ ⟨by omega, by omega⟩ (fun c1 => ?_) (fun c1 => ?_)
      · have e4 : i = 4 := by omega
        subst e4
        refine am_vret C T dX10_init_163 rfl (by omega) (by omega) ⟨rfl, _, _, _, rfl, fun x hx => absurd hx (Nat.not_lt_zero _), fun x g1 g2 => ?_, h7⟩
        rcases (show x < 182 ∨ x = 182 ∨ 183 ≤ x by omega) with e | e | e
        · exact h2 x g1 e
        · rw [e]
          exact ⟨h3.trans (if_row (by decide +kernel) (by decide +kernel)), h4.trans (i0_z (by decide +kernel)).symm, h5.trans (j0_z (by decide)).symm⟩
        · exact h6 x e (by omega)
      · have hN := isSh_of i (by omega)
        have hz := fun k => And.intro (congrFun (h7 (183 + 2 * i) (Nat.le_refl _)).2.1 k) (And.intro (congrFun (h7 (183 + 2 * i) (Nat.le_refl _)).2.2 k) (congrFun (h7 (183 + 2 * i) (Nat.le_refl _)).1 k))
        refine am_aload_n (q := 145) C dX10_init_144 rfl rfl ?_
        refine am_getR (q := 148) (r := 182) C fb_X10_79 dX10_init_145 rfl rfl kk_0 (by omega) ((congrFun (h2 0 (by omega) (by omega)).1 10).trans kr_0_10) ?_
        refine am_iload_n (q := 149) C dX10_init_148 rfl rfl ?_
        refine am_new (q := 152) C cb_7 kl_X10_77 ic_X7 ii_X7 dX10_init_149 rfl hN.1 hz (by decide) (by omega) (by show _ ≤ 190; omega) (by show _ ≤ 49158; omega) ?_
        refine am_dup (q := 153) C dX10_init_152 rfl rfl ?_
        refine am_callIN (q := 156) (As := []) (rest := [.ref (183 + 2 * i), .int (iZ (i : Int)), .ref 182]) C mb_X7_init rfl rfl im_X7_init mn_X10_94 (show 183 + 2 * i < 183 + 2 * i + 1 by omega) dX10_init_153 rfl (sp_X7_init hN h7) rfl rfl ⟨by decide, by decide⟩ ⟨by show _ ≤ 190; omega, by show _ ≤ 49158; omega⟩ (Nat.le_of_ble_eq_true rfl) (am_rv (fun w' hw' => ?_))
        obtain ⟨R2, I2, J2, rfl, hl⟩ := hw'
        refine am_aast (q := 157) (v := 183 + 2 * i) (h := 182) (t := 5) C cb_7 rfl (fun _ => rfl) dX10_init_156 rfl (show kK 182 = (25, 4) by decide +kernel) (by omega) hN.1 (by omega) (iZ_in (by omega) (by omega) (by decide)) ?_
        rw [iZ_clN (k := i) rfl (by omega)]
        refine am_iincZ (q := 160) (b := ((i + 1 : Nat) : Int)) (L' := [some (.ref 0), some (.int (iZ ((i + 1 : Nat) : Int)))]) C dX10_init_157 rfl rfl (by omega) (by decide) rfl rfl ?_
        refine am_goto (q := 139) C dX10_init_160 (by decide) ?_
        have hfin := ih (i + 1) _ _ _ (by omega) (shI_step (by omega) hI9 hl) (by omega)
        rw [show 183 + 2 * (i + 1) = 183 + 2 * i + 2 by omega] at hfin
        exact am_widen (by omega) (by omega) hfin
  have h0 : st0 1 (List.replicate 14 none) Rf I J := ⟨(hf 0 (by omega)).1.trans (rep_get none 14), (hf 0 (by omega)).2.1, (hf 0 (by omega)).2.2, fun x g1 g2 => by omega, fun x hx => hf x (by omega)⟩
  refine am_aload_n (q := 1) C dX10_init_0 rfl rfl ?_
  refine am_objInit (q := 4) C ml_X10_5 oi_inst oi_code dX10_init_1 rfl (by decide) (by decide) (Nat.le_of_ble_eq_true rfl) ?_
  refine am_aload_n (q := 5) C dX10_init_4 rfl rfl ?_
  refine am_new (q := 8) (N := 1) C cb_5 kl_X10_11 ic_X5 ii_X5 dX10_init_5 rfl (show kK 1 = (5, 0) by decide +kernel) (fun k => ⟨congrFun (h0.2.2.2.2 1 (by omega)).2.1 k, congrFun (h0.2.2.2.2 1 (by omega)).2.2 k, congrFun (h0.2.2.2.2 1 (by omega)).1 k⟩) (by decide) (by omega) (Nat.le_of_ble_eq_true rfl) (Nat.le_of_ble_eq_true rfl) ?_
  refine am_dup (q := 9) C dX10_init_8 rfl rfl ?_
  refine am_callIN (q := 12) (h := 1) (As := []) (rest := [.ref 1, .ref 0]) C mb_X5_init rfl rfl im_X5_init mn_X10_13 (show 1 < 1 + 1 by omega) dX10_init_9 rfl (sp_X5_init isN_1 h0.2.2.2.2) rfl rfl ⟨by decide, by decide⟩ ⟨Nat.le_of_ble_eq_true rfl, Nat.le_of_ble_eq_true rfl⟩ (Nat.le_of_ble_eq_true rfl) (am_rv (fun w' hw' => ?_))
  obtain ⟨R9, I1, J1, rfl, hl⟩ := hw'
  refine am_putF (q := 15) C ff_X10_14 rfl dX10_init_12 rfl rfl (show kK 0 = (10, 0) by decide +kernel) (by omega) ?_
  have h1 := stp (k := 0) h0 hl (Nat.le_of_ble_eq_true rfl) (by decide) (by decide)
  clear hl h0
  generalize am_up R9 0 0 (some 1) = Rf1 at h1 ⊢
  refine am_aload_n (q := 16) C dX10_init_15 rfl rfl ?_
  refine am_new (q := 19) (N := 6) C cb_5 kl_X10_11 ic_X5 ii_X5 dX10_init_16 rfl (show kK 6 = (5, 0) by decide +kernel) (fun k => ⟨congrFun (h1.2.2.2.2 6 (by omega)).2.1 k, congrFun (h1.2.2.2.2 6 (by omega)).2.2 k, congrFun (h1.2.2.2.2 6 (by omega)).1 k⟩) (by decide) (by omega) (Nat.le_of_ble_eq_true rfl) (Nat.le_of_ble_eq_true rfl) ?_
  refine am_dup (q := 20) C dX10_init_19 rfl rfl ?_
  refine am_callIN (q := 23) (h := 6) (As := []) (rest := [.ref 6, .ref 0]) C mb_X5_init rfl rfl im_X5_init mn_X10_13 (show 6 < 6 + 1 by omega) dX10_init_20 rfl (sp_X5_init isN_6 h1.2.2.2.2) rfl rfl ⟨by decide, by decide⟩ ⟨Nat.le_of_ble_eq_true rfl, Nat.le_of_ble_eq_true rfl⟩ (Nat.le_of_ble_eq_true rfl) (am_rv (fun w' hw' => ?_))
  obtain ⟨R9, I2, J2, rfl, hl⟩ := hw'
  refine am_putF (q := 26) C ff_X10_18 rfl dX10_init_23 rfl rfl (show kK 0 = (10, 0) by decide +kernel) (by omega) ?_
  have h2 := stp (k := 1) h1 hl (Nat.le_of_ble_eq_true rfl) (by decide) (by decide)
  clear hl h1
  generalize am_up R9 0 1 (some 6) = Rf2 at h2 ⊢
  refine am_aload_n (q := 27) C dX10_init_26 rfl rfl ?_
  refine am_new (q := 30) (N := 11) C cb_0 kl_X10_21 ic_X0 ii_X0 dX10_init_27 rfl (show kK 11 = (0, 0) by decide +kernel) (fun k => ⟨congrFun (h2.2.2.2.2 11 (by omega)).2.1 k, congrFun (h2.2.2.2.2 11 (by omega)).2.2 k, congrFun (h2.2.2.2.2 11 (by omega)).1 k⟩) (by decide) (by omega) (Nat.le_of_ble_eq_true rfl) (Nat.le_of_ble_eq_true rfl) ?_
  refine am_dup (q := 31) C dX10_init_30 rfl rfl ?_
  refine am_callIN (q := 34) (h := 11) (As := []) (rest := [.ref 11, .ref 0]) C mb_X0_init rfl rfl im_X0_init mn_X10_23 (show 11 < 11 + 1 by omega) dX10_init_31 rfl (sp_X0_init h2.2.2.2.2) rfl rfl ⟨by decide, by decide⟩ ⟨Nat.le_of_ble_eq_true rfl, Nat.le_of_ble_eq_true rfl⟩ (Nat.le_of_ble_eq_true rfl) (am_rv (fun w' hw' => ?_))
  obtain ⟨R9, I3, J3, rfl, hl⟩ := hw'
  refine am_putF (q := 37) C ff_X10_24 rfl dX10_init_34 rfl rfl (show kK 0 = (10, 0) by decide +kernel) (by omega) ?_
  have h3 := stp (k := 2) h2 hl (Nat.le_of_ble_eq_true rfl) (by decide) (by decide)
  clear hl h2
  generalize am_up R9 0 2 (some 11) = Rf3 at h3 ⊢
  refine am_aload_n (q := 38) C dX10_init_37 rfl rfl ?_
  refine am_new (q := 41) (N := 163) C cb_8 kl_X10_28 ic_X8 ii_X8 dX10_init_38 rfl (show kK 163 = (8, 0) by decide +kernel) (fun k => ⟨congrFun (h3.2.2.2.2 163 (by omega)).2.1 k, congrFun (h3.2.2.2.2 163 (by omega)).2.2 k, congrFun (h3.2.2.2.2 163 (by omega)).1 k⟩) (by decide) (by omega) (Nat.le_of_ble_eq_true rfl) (Nat.le_of_ble_eq_true rfl) ?_
  refine am_dup (q := 42) C dX10_init_41 rfl rfl ?_
  refine am_callIN (q := 45) (h := 163) (As := []) (rest := [.ref 163, .ref 0]) C mb_X8_init rfl rfl im_X8_init mn_X10_30 (show 163 < 163 + 1 by omega) dX10_init_42 rfl (sp_X8_init h3.2.2.2.2) rfl rfl ⟨by decide, by decide⟩ ⟨Nat.le_of_ble_eq_true rfl, Nat.le_of_ble_eq_true rfl⟩ (Nat.le_of_ble_eq_true rfl) (am_rv (fun w' hw' => ?_))
  obtain ⟨R9, I4, J4, rfl, hl⟩ := hw'
  refine am_putF (q := 48) C ff_X10_31 rfl dX10_init_45 rfl rfl (show kK 0 = (10, 0) by decide +kernel) (by omega) ?_
  have h4 := stp (k := 3) h3 hl (Nat.le_of_ble_eq_true rfl) (by decide) (by decide)
  clear hl h3
  generalize am_up R9 0 3 (some 163) = Rf4 at h4 ⊢
  refine am_aload_n (q := 49) C dX10_init_48 rfl rfl ?_
  refine am_new (q := 52) (N := 165) C cb_6 kl_X10_35 ic_X6 ii_X6 dX10_init_49 rfl (show kK 165 = (6, 0) by decide +kernel) (fun k => ⟨congrFun (h4.2.2.2.2 165 (by omega)).2.1 k, congrFun (h4.2.2.2.2 165 (by omega)).2.2 k, congrFun (h4.2.2.2.2 165 (by omega)).1 k⟩) (by decide) (by omega) (Nat.le_of_ble_eq_true rfl) (Nat.le_of_ble_eq_true rfl) ?_
  refine am_dup (q := 53) C dX10_init_52 rfl rfl ?_
  refine am_callIN (q := 56) (h := 165) (As := []) (rest := [.ref 165, .ref 0]) C mb_X6_init rfl rfl im_X6_init mn_X10_37 (show 165 < 165 + 1 by omega) dX10_init_53 rfl (sp_X6_init h4.2.2.2.2) rfl rfl ⟨by decide, by decide⟩ ⟨Nat.le_of_ble_eq_true rfl, Nat.le_of_ble_eq_true rfl⟩ (Nat.le_of_ble_eq_true rfl) (am_rv (fun w' hw' => ?_))
  obtain ⟨R9, I5, J5, rfl, hl⟩ := hw'
  refine am_putF (q := 59) C ff_X10_38 rfl dX10_init_56 rfl rfl (show kK 0 = (10, 0) by decide +kernel) (by omega) ?_
  have h5 := stp (k := 4) h4 hl (Nat.le_of_ble_eq_true rfl) (by decide) (by decide)
  clear hl h4
  generalize am_up R9 0 4 (some 165) = Rf5 at h5 ⊢
  refine am_aload_n (q := 60) C dX10_init_59 rfl rfl ?_
  refine am_new (q := 63) (N := 169) C cb_1 kl_X10_42 ic_X1 ii_X1 dX10_init_60 rfl (show kK 169 = (1, 0) by decide +kernel) (fun k => ⟨congrFun (h5.2.2.2.2 169 (by omega)).2.1 k, congrFun (h5.2.2.2.2 169 (by omega)).2.2 k, congrFun (h5.2.2.2.2 169 (by omega)).1 k⟩) (by decide) (by omega) (Nat.le_of_ble_eq_true rfl) (Nat.le_of_ble_eq_true rfl) ?_
  refine am_dup (q := 64) C dX10_init_63 rfl rfl ?_
  refine am_callIN (q := 67) (h := 169) (As := []) (rest := [.ref 169, .ref 0]) C mb_X1_init rfl rfl im_X1_init mn_X10_44 (show 169 < 169 + 1 by omega) dX10_init_64 rfl (sp_X1_init h5.2.2.2.2) rfl rfl ⟨by decide, by decide⟩ ⟨Nat.le_of_ble_eq_true rfl, Nat.le_of_ble_eq_true rfl⟩ (Nat.le_of_ble_eq_true rfl) (am_rv (fun w' hw' => ?_))
  obtain ⟨R9, I6, J6, rfl, hl⟩ := hw'
  refine am_putF (q := 70) C ff_X10_45 rfl dX10_init_67 rfl rfl (show kK 0 = (10, 0) by decide +kernel) (by omega) ?_
  have h6 := stp (k := 5) h5 hl (Nat.le_of_ble_eq_true rfl) (by decide) (by decide)
  clear hl h5
  generalize am_up R9 0 5 (some 169) = Rf6 at h6 ⊢
  refine am_aload_n (q := 71) C dX10_init_70 rfl rfl ?_
  refine am_new (q := 74) (N := 174) C cb_4 kl_X10_49 ic_X4 ii_X4 dX10_init_71 rfl (show kK 174 = (4, 0) by decide +kernel) (fun k => ⟨congrFun (h6.2.2.2.2 174 (by omega)).2.1 k, congrFun (h6.2.2.2.2 174 (by omega)).2.2 k, congrFun (h6.2.2.2.2 174 (by omega)).1 k⟩) (by decide) (by omega) (Nat.le_of_ble_eq_true rfl) (Nat.le_of_ble_eq_true rfl) ?_
  refine am_dup (q := 75) C dX10_init_74 rfl rfl ?_
  refine am_callIN (q := 78) (h := 174) (As := []) (rest := [.ref 174, .ref 0]) C mb_X4_init rfl rfl im_X4_init mn_X10_51 (show 174 < 174 + 1 by omega) dX10_init_75 rfl (sp_X4_init h6.2.2.2.2) rfl rfl ⟨by decide, by decide⟩ ⟨Nat.le_of_ble_eq_true rfl, Nat.le_of_ble_eq_true rfl⟩ (Nat.le_of_ble_eq_true rfl) (am_rv (fun w' hw' => ?_))
  obtain ⟨R9, I7, J7, rfl, hl⟩ := hw'
  refine am_putF (q := 81) C ff_X10_52 rfl dX10_init_78 rfl rfl (show kK 0 = (10, 0) by decide +kernel) (by omega) ?_
  have h7 := stp (k := 6) h6 hl (Nat.le_of_ble_eq_true rfl) (by decide) (by decide)
  clear hl h6
  generalize am_up R9 0 6 (some 174) = Rf7 at h7 ⊢
  refine am_aload_n (q := 82) C dX10_init_81 rfl rfl ?_
  refine am_new (q := 85) (N := 176) C cb_9 kl_X10_56 ic_X9 ii_X9 dX10_init_82 rfl (show kK 176 = (9, 0) by decide +kernel) (fun k => ⟨congrFun (h7.2.2.2.2 176 (by omega)).2.1 k, congrFun (h7.2.2.2.2 176 (by omega)).2.2 k, congrFun (h7.2.2.2.2 176 (by omega)).1 k⟩) (by decide) (by omega) (Nat.le_of_ble_eq_true rfl) (Nat.le_of_ble_eq_true rfl) ?_
  refine am_dup (q := 86) C dX10_init_85 rfl rfl ?_
  refine am_callIN (q := 89) (h := 176) (As := []) (rest := [.ref 176, .ref 0]) C mb_X9_init rfl rfl im_X9_init mn_X10_58 (show 176 < 176 + 1 by omega) dX10_init_86 rfl (sp_X9_init h7.2.2.2.2) rfl rfl ⟨by decide, by decide⟩ ⟨Nat.le_of_ble_eq_true rfl, Nat.le_of_ble_eq_true rfl⟩ (Nat.le_of_ble_eq_true rfl) (am_rv (fun w' hw' => ?_))
  obtain ⟨R9, I8, J8, rfl, hl⟩ := hw'
  refine am_putF (q := 92) C ff_X10_59 rfl dX10_init_89 rfl rfl (show kK 0 = (10, 0) by decide +kernel) (by omega) ?_
  have h8 := stp (k := 7) h7 hl (Nat.le_of_ble_eq_true rfl) (by decide) (by decide)
  clear hl h7
  generalize am_up R9 0 7 (some 176) = Rf8 at h8 ⊢
  refine am_aload_n (q := 93) C dX10_init_92 rfl rfl ?_
  refine am_new (q := 96) (N := 178) C cb_2 kl_X10_63 ic_X2 ii_X2 dX10_init_93 rfl (show kK 178 = (2, 0) by decide +kernel) (fun k => ⟨congrFun (h8.2.2.2.2 178 (by omega)).2.1 k, congrFun (h8.2.2.2.2 178 (by omega)).2.2 k, congrFun (h8.2.2.2.2 178 (by omega)).1 k⟩) (by decide) (by omega) (Nat.le_of_ble_eq_true rfl) (Nat.le_of_ble_eq_true rfl) ?_
  refine am_dup (q := 97) C dX10_init_96 rfl rfl ?_
  refine am_callIN (q := 100) (h := 178) (As := []) (rest := [.ref 178, .ref 0]) C mb_X2_init rfl rfl im_X2_init mn_X10_65 (show 178 < 178 + 1 by omega) dX10_init_97 rfl (sp_X2_init h8.2.2.2.2) rfl rfl ⟨by decide, by decide⟩ ⟨Nat.le_of_ble_eq_true rfl, Nat.le_of_ble_eq_true rfl⟩ (Nat.le_of_ble_eq_true rfl) (am_rv (fun w' hw' => ?_))
  obtain ⟨R9, I9, J9, rfl, hl⟩ := hw'
  refine am_putF (q := 103) C ff_X10_66 rfl dX10_init_100 rfl rfl (show kK 0 = (10, 0) by decide +kernel) (by omega) ?_
  have h9 := stp (k := 8) h8 hl (Nat.le_of_ble_eq_true rfl) (by decide) (by decide)
  clear hl h8
  generalize am_up R9 0 8 (some 178) = Rf9 at h9 ⊢
  refine am_aload_n (q := 104) C dX10_init_103 rfl rfl ?_
  refine am_new (q := 107) (N := 180) C cb_3 kl_X10_70 ic_X3 ii_X3 dX10_init_104 rfl (show kK 180 = (3, 0) by decide +kernel) (fun k => ⟨congrFun (h9.2.2.2.2 180 (by omega)).2.1 k, congrFun (h9.2.2.2.2 180 (by omega)).2.2 k, congrFun (h9.2.2.2.2 180 (by omega)).1 k⟩) (by decide) (by omega) (Nat.le_of_ble_eq_true rfl) (Nat.le_of_ble_eq_true rfl) ?_
  refine am_dup (q := 108) C dX10_init_107 rfl rfl ?_
  refine am_callIN (q := 111) (h := 180) (As := []) (rest := [.ref 180, .ref 0]) C mb_X3_init rfl rfl im_X3_init mn_X10_72 (show 180 < 180 + 1 by omega) dX10_init_108 rfl (sp_X3_init h9.2.2.2.2) rfl rfl ⟨by decide, by decide⟩ ⟨Nat.le_of_ble_eq_true rfl, Nat.le_of_ble_eq_true rfl⟩ (Nat.le_of_ble_eq_true rfl) (am_rv (fun w' hw' => ?_))
  obtain ⟨R9, I10, J10, rfl, hl⟩ := hw'
  refine am_putF (q := 114) C ff_X10_73 rfl dX10_init_111 rfl rfl (show kK 0 = (10, 0) by decide +kernel) (by omega) ?_
  have h10 := stp (k := 9) h9 hl (Nat.le_of_ble_eq_true rfl) (by decide) (by decide)
  clear hl h9
  generalize am_up R9 0 9 (some 180) = Rf10 at h10 ⊢
  refine am_aload_n (q := 115) C dX10_init_114 rfl rfl ?_
  refine am_iconst (q := 116) (v := iZ 4) C dX10_init_115 rfl rfl ?_
  refine am_newq (q := 119) (t := 5) (Na := 4) C C.2.2.2.2.2.2.2.1.2.2.2.1 kl_X10_77 rfl (fun _ => rfl) dX10_init_116 rfl (show kK 182 = (25, 4) by decide +kernel) (by decide +kernel) (by decide) (fun k => ⟨congrFun (h10.2.2.2.2 182 (by omega)).2.1 k, congrFun (h10.2.2.2.2 182 (by omega)).2.2 k, congrFun (h10.2.2.2.2 182 (by omega)).1 k⟩) (by omega) (Nat.le_of_ble_eq_true rfl) (Nat.le_of_ble_eq_true rfl) ?_
  refine am_putF (q := 122) C ff_X10_79 rfl dX10_init_119 rfl rfl (show kK 0 = (10, 0) by decide +kernel) (by omega) ?_
  refine am_aload_n (q := 123) C dX10_init_122 rfl rfl ?_
  refine am_iconst (q := 124) (v := iZ 0) C dX10_init_123 rfl rfl ?_
  refine am_putZ (q := 127) C fw_X10_83 dX10_init_124 rfl rfl (Or.inl rfl) (show kK 0 = (10, 0) by decide +kernel) (by omega) ?_
  refine am_aload_n (q := 128) C dX10_init_127 rfl rfl ?_
  refine am_iconst (q := 129) (v := iZ 1) C dX10_init_128 rfl rfl ?_
  refine am_putI (q := 132) C fw_X10_87 dX10_init_129 rfl rfl (show kK 0 = (10, 0) by decide +kernel) (by omega) ?_
  refine am_aload_n (q := 133) C dX10_init_132 rfl rfl ?_
  refine am_iconst (q := 134) (v := iZ 1) C dX10_init_133 rfl rfl ?_
  refine am_putI (q := 137) C fw_X10_91 dX10_init_134 rfl rfl (show kK 0 = (10, 0) by decide +kernel) (by omega) ?_
  refine am_iconst (q := 138) (v := iZ 0) C dX10_init_137 rfl rfl ?_
  refine am_istore_n (q := 139) (L' := [some (.ref 0), some (.int (iZ 0))]) C dX10_init_138 rfl (by decide) rfl rfl ?_
  obtain ⟨g1, g2, g3, g4, g5⟩ := h10
  refine am_widen (Nat.le_of_ble_eq_true rfl) (Nat.le_of_ble_eq_true rfl) (lp 6 0 _ _ _ (by decide) ⟨fun x q1 q2 => ?_, ⟨?_, ?_, ?_⟩, fun x q1 q2 => by omega, fun x hx => ?_⟩ (by decide))
  · by_cases e : x = 0
    · rw [e]; clear q1 q2 e
      refine ⟨?_, ?_, ?_⟩
      · rw [am_upR, g1, up1_get _ _ _ _ (Nat.le_of_ble_eq_true rfl)]; exact congrArg (fun (l : List (Option Nat)) (k : Nat) => l.getD k none) (by decide +kernel)
      · rw [am_upR, am_upR, am_upR, g2, up1_zero, i0_l (show i0L 0 = [0, 0, 0, 0, 0, 0, 0, 0, 0, 0, 0, 0, 1, 1] by decide +kernel), show zI = _ from rep_get 0 14, up1_get _ _ _ _ (Nat.le_of_ble_eq_true rfl), up1_get _ _ _ _ (Nat.le_of_ble_eq_true rfl)]; first | done | exact congrArg (fun (l : List Int32) (k : Nat) => l.getD k 0) (by decide +kernel)
      · exact g3.trans (j0_z (by decide)).symm
    · rw [am_up_row _ _ _ _ (by omega), am_up_row _ _ _ _ (by omega), am_up_row _ _ _ _ (by omega), am_up_row _ _ _ _ (by omega)]; exact g4 x (by omega) q2
  · rw [am_up_row _ _ _ _ (by omega)]; exact (g5 182 (by omega)).1.trans if_zero.symm
  · rw [am_up_row _ _ _ _ (by omega), am_up_row _ _ _ _ (by omega), am_up_row _ _ _ _ (by omega)]; exact (g5 182 (by omega)).2.1
  · exact (g5 182 (by omega)).2.2
  · rw [am_up_row _ _ _ _ (by omega), am_up_row _ _ _ _ (by omega), am_up_row _ _ _ _ (by omega), am_up_row _ _ _ _ (by omega)]; exact g5 x (by omega)
