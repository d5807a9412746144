variable {G : am_G} {I : Nat → Nat → Int32} {J : Nat → Nat → Int64}
def lD (l : List (Nat × Nat)) (c : Nat) : Int := (ra l c : Int) * (rb l (c + 1) : Int) - (rb l c : Int) * (ra l (c + 1) : Int)
def lS (l : List (Nat × Nat)) (c : Nat) (x y : Int) : Int := x * (rb l (c + 1) : Int) - y * (ra l (c + 1) : Int)
def lT (l : List (Nat × Nat)) (c : Nat) (x y : Int) : Int := (ra l c : Int) * y - (rb l c : Int) * x
def lI (l : List (Nat × Nat)) (P c : Nat) (x y : Int) : Int := lS l c x y / ((P : Int) * lD l c)
def lJ (l : List (Nat × Nat)) (P c : Nat) (x y : Int) : Int := lT l c x y / ((P : Int) * lD l c)
def hX (l : List (Nat × Nat)) (P c : Nat) (x y : Int) : Int := x - lI l P c x y * ((P : Int) * (ra l c : Int)) - lJ l P c x y * ((P : Int) * (ra l (c + 1) : Int))
def hY (l : List (Nat × Nat)) (P c : Nat) (x y : Int) : Int := y - lI l P c x y * ((P : Int) * (rb l c : Int)) - lJ l P c x y * ((P : Int) * (rb l (c + 1) : Int))
/-- what was located -/
def atLo (I : Nat → Nat → Int32) (l : List (Nat × Nat)) (P c : Nat) (x y : Int) : Prop := I 180 5 = iZ ((P : Int) * (ra l c : Int)) ∧ I 180 6 = iZ ((P : Int) * (rb l c : Int)) ∧ I 180 7 = iZ ((P : Int) * (ra l (c + 1) : Int)) ∧ I 180 8 = iZ ((P : Int) * (rb l (c + 1) : Int)) ∧ I 180 3 = iZ (lI l P c x y) ∧ I 180 4 = iZ (lJ l P c x y) ∧ I 180 1 = iZ (hX l P c x y) ∧ I 180 2 = iZ (hY l P c x y)
theorem atLo.on {I I' : Nat → Nat → Int32} {l : List (Nat × Nat)} {P c : Nat} {x y : Int} (h : atLo I l P c x y) (hI : I' 180 = I 180) : atLo I' l P c x y := by unfold atLo; rw [hI]; exact h
theorem lD_le {l : List (Nat × Nat)} (hl : ∀ k, k < l.length → ra l k ≤ 4 ∧ rb l k ≤ 4) {c : Nat} (hc : c + 1 < l.length) : lD l c ≤ 16 := by
  have h1 := pr44 (hl c (by omega)).1 (hl (c + 1) hc).2
  have h2 := pr44 (hl c (by omega)).2 (hl (c + 1) hc).1
  have f1 : (ra l c : Int) * (rb l (c + 1) : Int) = ((ra l c * rb l (c + 1) : Nat) : Int) := by simp
  have f2 : (rb l c : Int) * (ra l (c + 1) : Int) = ((rb l c * ra l (c + 1) : Nat) : Int) := by simp
  unfold lD
  omega
set_option maxRecDepth 4000 in
theorem sp_X3_locate {l : List (Nat × Nat)} (hF : atF I l) {c P : Nat} (hc : c + 1 < l.length) (hP : 1 ≤ P ∧ P ≤ 6) (hper : I 169 5 = iZ (P : Int)) (hD : 1 ≤ lD l c) {x y : Int} (hx : -60 ≤ x ∧ x ≤ 60) (hy : -60 ≤ y ∧ y ≤ 60) : am_S G mX3_locate 3 0 0 [.ref 180, .ref 169, .int (iZ (c : Int)), .int (iZ x), .int (iZ y)] (215, kK, kR, I, J) (am_qv (fun w' => ∃ I' : Nat → Nat → Int32, w' = (215, kK, kR, I', J) ∧ atLo I' l P c x y ∧ ∀ h, h ≠ 180 → I' h = I h)) := by
  have hF9 := hF
  obtain ⟨f1, f2, f3⟩ := hF
  have hD2 := lD_le (fun k hk => ⟨(f3 k hk).2.2.1, (f3 k hk).2.2.2⟩) hc
  obtain ⟨d, hd⟩ : ∃ d : Nat, lD l c = d := ⟨(lD l c).toNat, by omega⟩
  have hPd : 1 ≤ P * d ∧ P * d ≤ 96 := ⟨Nat.mul_le_mul hP.1 (show 1 ≤ d by omega), Nat.mul_le_mul hP.2 (show d ≤ 16 by omega)⟩
  have ePd : (P : Int) * (d : Int) = ((P * d : Nat) : Int) := by simp
  have s1 : -(4 * 60) ≤ x * (rb l (c + 1) : Int) ∧ x * (rb l (c + 1) : Int) ≤ 4 * 60 := prx (c := 60) hx (f3 (c + 1) hc).2.2.2 (by decide)
  have s2 : -(4 * 60) ≤ y * (ra l (c + 1) : Int) ∧ y * (ra l (c + 1) : Int) ≤ 4 * 60 := prx (c := 60) hy (f3 (c + 1) hc).2.2.1 (by decide)
  have s3 : -(4 * 60) ≤ (ra l c : Int) * y ∧ (ra l c : Int) * y ≤ 4 * 60 := by rw [Int.mul_comm (ra l c : Int)]; exact prx (c := 60) hy (f3 c (by omega)).2.2.1 (by decide)
  have s4 : -(4 * 60) ≤ (rb l c : Int) * x ∧ (rb l c : Int) * x ≤ 4 * 60 := by rw [Int.mul_comm (rb l c : Int)]; exact prx (c := 60) hx (f3 c (by omega)).2.2.2 (by decide)
  have hlI : lI l P c x y = lS l c x y / ((P : Int) * (d : Int)) := by unfold lI; rw [hd]
  have hlJ : lJ l P c x y = lT l c x y / ((P : Int) * (d : Int)) := by unfold lJ; rw [hd]
  refine am_spec (plainFor_of_name (by decide +kernel)) (Nat.le_of_ble_eq_true rfl) (L := [some (.ref 180), some (.ref 169), some (.int (iZ (c : Int))), some (.int (iZ x)), some (.int (iZ y)), none]) rfl (fun X C T => ?_)
  refine am_aload_n (q := 1) C dX3_locate_0 rfl rfl ?_
  refine am_getIe (q := 4) (v := (iZ (P : Int))) C fb_X3_40 dX3_locate_1 rfl rfl kk_169 (show 169 < 215 by decide) hper ?_
  refine am_aload_n (q := 5) C dX3_locate_4 rfl rfl ?_
  refine am_iload_n (q := 6) C dX3_locate_5 rfl rfl ?_
  refine am_callN (q := 9) (As := [.int (iZ (c : Int))]) (rest := [.int (iZ (P : Int))]) C mb_X1_size im_X1_size se_X1_size mn_X3_45 cb_1 kk_169 (show 169 < 215 by decide) dX3_locate_6 rfl (sp_X1_size hF9 hc) rfl rfl ⟨by decide, by decide⟩ ⟨Nat.le_refl _, Nat.le_refl _⟩ (Nat.le_of_ble_eq_true rfl) (am_rie ?_)
  refine am_intE (show _ = iZ (d : Int) from congrArg iZ hd) ?_
  refine am_imulZ (q := 10) C dX3_locate_9 rfl ?_
  refine am_istore (q := 12) (L' := [some (.ref 180), some (.ref 169), some (.int (iZ (c : Int))), some (.int (iZ x)), some (.int (iZ y)), some (.int (iZ ((P : Int) * (d : Int))))]) C dX3_locate_10 rfl (by decide) rfl rfl ?_
  refine am_iload (q := 14) C dX3_locate_12 rfl rfl ?_
  refine am_iconst (q := 15) (v := iZ 1) C dX3_locate_14 rfl rfl ?_
  refine am_icmpZ_lt (q := 18) (tgt := 36) C dX3_locate_15 (by decide) rfl ⟨by omega, by omega⟩ ⟨by omega, by omega⟩ (fun q1 => ?_) (fun q1 => ?_)
  · refine am_vret C T dX3_locate_36 rfl (Nat.le_refl _) (Nat.le_refl _) ⟨rfl, ?_⟩
    exfalso; omega
  · refine am_aload_n (q := 19) C dX3_locate_18 rfl rfl ?_
    refine am_iload_n (q := 20) C dX3_locate_19 rfl rfl ?_
    refine am_callN (q := 23) (As := [.int (iZ (c : Int))]) (rest := []) C mb_X1_hasRay im_X1_hasRay se_X1_hasRay mn_X3_49 cb_1 kk_169 (show 169 < 215 by decide) dX3_locate_20 rfl (sp_X1_hasRay hF9 (p := (c : Int)) ⟨by omega, by omega⟩) rfl rfl ⟨by decide, by decide⟩ ⟨Nat.le_refl _, Nat.le_refl _⟩ (Nat.le_of_ble_eq_true rfl) (am_rie ?_)
    refine am_ifB_eq (q := 26) (tgt := 36) C dX3_locate_23 (by decide) rfl (fun q2 => ?_) (fun q2 => ?_)
    · refine am_vret C T dX3_locate_36 rfl (Nat.le_refl _) (Nat.le_refl _) ⟨rfl, ?_⟩
      exfalso; omega
    · refine am_aload_n (q := 27) C dX3_locate_26 rfl rfl ?_
      refine am_iload_n (q := 28) C dX3_locate_27 rfl rfl ?_
      refine am_iconst (q := 29) (v := iZ 1) C dX3_locate_28 rfl rfl ?_
      refine am_iaddZ (q := 30) C dX3_locate_29 rfl ?_
      refine am_callN (q := 33) (As := [.int (iZ ((c : Int) + 1))]) (rest := []) C mb_X1_hasRay im_X1_hasRay se_X1_hasRay mn_X3_49 cb_1 kk_169 (show 169 < 215 by decide) dX3_locate_30 rfl (sp_X1_hasRay hF9 (p := (c : Int) + 1) ⟨by omega, by omega⟩) rfl rfl ⟨by decide, by decide⟩ ⟨Nat.le_refl _, Nat.le_refl _⟩ (Nat.le_of_ble_eq_true rfl) (am_rie ?_)
      refine am_ifB_ne (q := 36) (tgt := 37) C dX3_locate_33 (by decide) rfl (fun q3 => ?_) (fun q3 => ?_)
      · refine am_aload_n (q := 38) C dX3_locate_37 rfl rfl ?_
        refine am_aload_n (q := 39) C dX3_locate_38 rfl rfl ?_
        refine am_getIe (q := 42) (v := (iZ (P : Int))) C fb_X3_40 dX3_locate_39 rfl rfl kk_169 (show 169 < 215 by decide) hper ?_
        refine am_aload_n (q := 43) C dX3_locate_42 rfl rfl ?_
        refine am_getR (q := 46) C fb_X3_53 dX3_locate_43 rfl rfl kk_169 (show 169 < 215 by decide) kr_169_0 ?_
        refine am_iload_n (q := 47) C dX3_locate_46 rfl rfl ?_
        refine am_ialoadZ (q := 48) c C dX3_locate_47 rfl kk_170 (show 170 < 215 by decide) rfl (by omega) (by decide) ?_
        refine am_intE (y := (iZ (ra l c : Int))) (f3 c (by omega)).1 ?_
        refine am_imulZ (q := 49) C dX3_locate_48 rfl ?_
        refine am_putI (q := 52) C fw_X3_28 dX3_locate_49 rfl rfl kk_180 (show 180 < 215 by decide) ?_
        refine am_aload_n (q := 53) C dX3_locate_52 rfl rfl ?_
        refine am_aload_n (q := 54) C dX3_locate_53 rfl rfl ?_
        refine am_getIe (q := 57) (v := (iZ (P : Int))) C fb_X3_40 dX3_locate_54 rfl rfl kk_169 (show 169 < 215 by decide) (by simp only [am_up]; simp; exact hper) ?_
        refine am_aload_n (q := 58) C dX3_locate_57 rfl rfl ?_
        refine am_getR (q := 61) C fb_X3_57 dX3_locate_58 rfl rfl kk_169 (show 169 < 215 by decide) kr_169_1 ?_
        refine am_iload_n (q := 62) C dX3_locate_61 rfl rfl ?_
        refine am_ialoadZ (q := 63) c C dX3_locate_62 rfl kk_171 (show 171 < 215 by decide) rfl (by omega) (by decide) ?_
        refine am_intE (y := (iZ (rb l c : Int))) (by simp only [am_up]; simp; exact (f3 c (by omega)).2.1) ?_
        refine am_imulZ (q := 64) C dX3_locate_63 rfl ?_
        refine am_putI (q := 67) C fw_X3_31 dX3_locate_64 rfl rfl kk_180 (show 180 < 215 by decide) ?_
        refine am_aload_n (q := 68) C dX3_locate_67 rfl rfl ?_
        refine am_aload_n (q := 69) C dX3_locate_68 rfl rfl ?_
        refine am_getIe (q := 72) (v := (iZ (P : Int))) C fb_X3_40 dX3_locate_69 rfl rfl kk_169 (show 169 < 215 by decide) (by simp only [am_up]; simp; exact hper) ?_
        refine am_aload_n (q := 73) C dX3_locate_72 rfl rfl ?_
        refine am_getR (q := 76) C fb_X3_53 dX3_locate_73 rfl rfl kk_169 (show 169 < 215 by decide) kr_169_0 ?_
        refine am_iload_n (q := 77) C dX3_locate_76 rfl rfl ?_
        refine am_iconst (q := 78) (v := iZ 1) C dX3_locate_77 rfl rfl ?_
        refine am_iaddZ (q := 79) C dX3_locate_78 rfl ?_
        refine am_ialoadZ (q := 80) (c + 1) C dX3_locate_79 rfl kk_170 (show 170 < 215 by decide) rfl (by omega) (by decide) ?_
        refine am_intE (y := (iZ (ra l (c + 1) : Int))) (by simp only [am_up]; simp; exact (f3 (c + 1) hc).1) ?_
        refine am_imulZ (q := 81) C dX3_locate_80 rfl ?_
        refine am_putI (q := 84) C fw_X3_34 dX3_locate_81 rfl rfl kk_180 (show 180 < 215 by decide) ?_
        refine am_aload_n (q := 85) C dX3_locate_84 rfl rfl ?_
        refine am_aload_n (q := 86) C dX3_locate_85 rfl rfl ?_
        refine am_getIe (q := 89) (v := (iZ (P : Int))) C fb_X3_40 dX3_locate_86 rfl rfl kk_169 (show 169 < 215 by decide) (by simp only [am_up]; simp; exact hper) ?_
        refine am_aload_n (q := 90) C dX3_locate_89 rfl rfl ?_
        refine am_getR (q := 93) C fb_X3_57 dX3_locate_90 rfl rfl kk_169 (show 169 < 215 by decide) kr_169_1 ?_
        refine am_iload_n (q := 94) C dX3_locate_93 rfl rfl ?_
        refine am_iconst (q := 95) (v := iZ 1) C dX3_locate_94 rfl rfl ?_
        refine am_iaddZ (q := 96) C dX3_locate_95 rfl ?_
        refine am_ialoadZ (q := 97) (c + 1) C dX3_locate_96 rfl kk_171 (show 171 < 215 by decide) rfl (by omega) (by decide) ?_
        refine am_intE (y := (iZ (rb l (c + 1) : Int))) (by simp only [am_up]; simp; exact (f3 (c + 1) hc).2.1) ?_
        refine am_imulZ (q := 98) C dX3_locate_97 rfl ?_
        refine am_putI (q := 101) C fw_X3_37 dX3_locate_98 rfl rfl kk_180 (show 180 < 215 by decide) ?_
        refine am_aload_n (q := 102) C dX3_locate_101 rfl rfl ?_
        refine am_aload_n (q := 103) C dX3_locate_102 rfl rfl ?_
        refine am_iload_n (q := 104) C dX3_locate_103 rfl rfl ?_
        refine am_iload_n (q := 105) C dX3_locate_104 rfl rfl ?_
        refine am_iload (q := 107) C dX3_locate_105 rfl rfl ?_
        refine am_callN (q := 110) (As := [.int (iZ (c : Int)), .int (iZ x), .int (iZ y)]) (rest := [.ref 180]) C mb_X1_firstSpan im_X1_firstSpan se_X1_firstSpan mn_X3_60 cb_1 kk_169 (show 169 < 215 by decide) dX3_locate_107 rfl (sp_X1_firstSpan (x := x) (y := y) (hF9.on (fun h hh => by rcases hh with e | e | e <;> subst e <;> rfl)) hc) rfl rfl ⟨by decide, by decide⟩ ⟨Nat.le_refl _, Nat.le_refl _⟩ (Nat.le_of_ble_eq_true rfl) (am_rie ?_)
        refine am_intE (show _ = iZ (lS l c x y) from rfl) ?_
        refine am_iload (q := 112) C dX3_locate_110 rfl rfl ?_
        refine am_callS (q := 115) (As := [.int (iZ (lS l c x y)), .int (iZ ((P : Int) * (d : Int)))]) (rest := [.ref 180]) C mb_J9_floorDiv_7cf53 st_J9_floorDiv_7cf53 ml_X3_64 dX3_locate_112 rfl (sp_floorDiv (a := lS l c x y) (b := (P : Int) * (d : Int)) (by unfold lS; omega) (by omega)) rfl rfl ⟨by decide, by decide⟩ ⟨Nat.le_refl _, Nat.le_refl _⟩ (Nat.le_of_ble_eq_true rfl) (am_rie ?_)
        refine am_intE (show _ = iZ (lI l P c x y) from congrArg iZ hlI.symm) ?_
        refine am_putI (q := 118) C fw_X3_22 dX3_locate_115 rfl rfl kk_180 (show 180 < 215 by decide) ?_
        refine am_aload_n (q := 119) C dX3_locate_118 rfl rfl ?_
        refine am_aload_n (q := 120) C dX3_locate_119 rfl rfl ?_
        refine am_iload_n (q := 121) C dX3_locate_120 rfl rfl ?_
        refine am_iload_n (q := 122) C dX3_locate_121 rfl rfl ?_
        refine am_iload (q := 124) C dX3_locate_122 rfl rfl ?_
        refine am_callN (q := 127) (As := [.int (iZ (c : Int)), .int (iZ x), .int (iZ y)]) (rest := [.ref 180]) C mb_X1_secondSpan im_X1_secondSpan se_X1_secondSpan mn_X3_70 cb_1 kk_169 (show 169 < 215 by decide) dX3_locate_124 rfl (sp_X1_secondSpan (x := x) (y := y) (hF9.on (fun h hh => by rcases hh with e | e | e <;> subst e <;> rfl)) hc) rfl rfl ⟨by decide, by decide⟩ ⟨Nat.le_refl _, Nat.le_refl _⟩ (Nat.le_of_ble_eq_true rfl) (am_rie ?_)
        refine am_intE (show _ = iZ (lT l c x y) from rfl) ?_
        refine am_iload (q := 129) C dX3_locate_127 rfl rfl ?_
        refine am_callS (q := 132) (As := [.int (iZ (lT l c x y)), .int (iZ ((P : Int) * (d : Int)))]) (rest := [.ref 180]) C mb_J9_floorDiv_7cf53 st_J9_floorDiv_7cf53 ml_X3_64 dX3_locate_129 rfl (sp_floorDiv (a := lT l c x y) (b := (P : Int) * (d : Int)) (by unfold lT; omega) (by omega)) rfl rfl ⟨by decide, by decide⟩ ⟨Nat.le_refl _, Nat.le_refl _⟩ (Nat.le_of_ble_eq_true rfl) (am_rie ?_)
        refine am_intE (show _ = iZ (lJ l P c x y) from congrArg iZ hlJ.symm) ?_
        refine am_putI (q := 135) C fw_X3_25 dX3_locate_132 rfl rfl kk_180 (show 180 < 215 by decide) ?_
        refine am_aload_n (q := 136) C dX3_locate_135 rfl rfl ?_
        refine am_iload_n (q := 137) C dX3_locate_136 rfl rfl ?_
        refine am_aload_n (q := 138) C dX3_locate_137 rfl rfl ?_
        refine am_getIe (q := 141) (v := (iZ (lI l P c x y))) C fb_X3_22 dX3_locate_138 rfl rfl kk_180 (show 180 < 215 by decide) (by simp [am_up]) ?_
        refine am_aload_n (q := 142) C dX3_locate_141 rfl rfl ?_
        refine am_getIe (q := 145) (v := (iZ ((P : Int) * (ra l c : Int)))) C fb_X3_28 dX3_locate_142 rfl rfl kk_180 (show 180 < 215 by decide) (by simp [am_up]) ?_
        refine am_imulZ (q := 146) C dX3_locate_145 rfl ?_
        refine am_isubZ (q := 147) C dX3_locate_146 rfl ?_
        refine am_aload_n (q := 148) C dX3_locate_147 rfl rfl ?_
        refine am_getIe (q := 151) (v := (iZ (lJ l P c x y))) C fb_X3_25 dX3_locate_148 rfl rfl kk_180 (show 180 < 215 by decide) (by simp [am_up]) ?_
        refine am_aload_n (q := 152) C dX3_locate_151 rfl rfl ?_
        refine am_getIe (q := 155) (v := (iZ ((P : Int) * (ra l (c + 1) : Int)))) C fb_X3_34 dX3_locate_152 rfl rfl kk_180 (show 180 < 215 by decide) (by simp [am_up]) ?_
        refine am_imulZ (q := 156) C dX3_locate_155 rfl ?_
        refine am_isubZ (q := 157) C dX3_locate_156 rfl ?_
        refine am_putI (q := 160) C fw_X3_15 dX3_locate_157 rfl rfl kk_180 (show 180 < 215 by decide) ?_
        refine am_aload_n (q := 161) C dX3_locate_160 rfl rfl ?_
        refine am_iload (q := 163) C dX3_locate_161 rfl rfl ?_
        refine am_aload_n (q := 164) C dX3_locate_163 rfl rfl ?_
        refine am_getIe (q := 167) (v := (iZ (lI l P c x y))) C fb_X3_22 dX3_locate_164 rfl rfl kk_180 (show 180 < 215 by decide) (by simp [am_up]) ?_
        refine am_aload_n (q := 168) C dX3_locate_167 rfl rfl ?_
        refine am_getIe (q := 171) (v := (iZ ((P : Int) * (rb l c : Int)))) C fb_X3_31 dX3_locate_168 rfl rfl kk_180 (show 180 < 215 by decide) (by simp [am_up]) ?_
        refine am_imulZ (q := 172) C dX3_locate_171 rfl ?_
        refine am_isubZ (q := 173) C dX3_locate_172 rfl ?_
        refine am_aload_n (q := 174) C dX3_locate_173 rfl rfl ?_
        refine am_getIe (q := 177) (v := (iZ (lJ l P c x y))) C fb_X3_25 dX3_locate_174 rfl rfl kk_180 (show 180 < 215 by decide) (by simp [am_up]) ?_
        refine am_aload_n (q := 178) C dX3_locate_177 rfl rfl ?_
        refine am_getIe (q := 181) (v := (iZ ((P : Int) * (rb l (c + 1) : Int)))) C fb_X3_37 dX3_locate_178 rfl rfl kk_180 (show 180 < 215 by decide) (by simp [am_up]) ?_
        refine am_imulZ (q := 182) C dX3_locate_181 rfl ?_
        refine am_isubZ (q := 183) C dX3_locate_182 rfl ?_
        refine am_putI (q := 186) C fw_X3_19 dX3_locate_183 rfl rfl kk_180 (show 180 < 215 by decide) ?_
        refine am_vret C T dX3_locate_186 rfl (Nat.le_refl _) (Nat.le_refl _) ⟨rfl, ?_⟩
        exact ⟨_, rfl, ⟨by simp [am_up], by simp [am_up], by simp [am_up], by simp [am_up], by simp [am_up], by simp [am_up], by simp [am_up, hX], by simp [am_up, hY]⟩, fun h hh => by repeat rw [am_up_row _ _ _ _ hh]⟩
      · refine am_vret C T dX3_locate_36 rfl (Nat.le_refl _) (Nat.le_refl _) ⟨rfl, ?_⟩
        exfalso; omega
set_option maxRecDepth 4000 in
theorem sp_X3_farX {l : List (Nat × Nat)} {P c : Nat} {x y : Int} (hL : atLo I l P c x y) (hP : P ≤ 6) (h1 : ra l c ≤ 4) (h2 : ra l (c + 1) ≤ 4) {n : Nat} (hn : n ≤ 4) : am_S G mX3_farX 2 0 0 [.ref 180, .int (iZ (n : Int))] (215, kK, kR, I, J) (am_fi (iZ ((P * ra l c + P * ra l (c + 1) + n * max (P * ra l c) (P * ra l (c + 1)) : Nat) : Int)) (215, kK, kR, I, J)) := by
  obtain ⟨q1, hq1⟩ : ∃ q, q = P * ra l c := ⟨_, rfl⟩
  obtain ⟨q2, hq2⟩ : ∃ q, q = P * ra l (c + 1) := ⟨_, rfl⟩
  have b1 := Nat.mul_le_mul hP h1
  have b2 := Nat.mul_le_mul hP h2
  have e1 : (P : Int) * (ra l c : Int) = (q1 : Int) := by rw [hq1]; simp
  have e2 : (P : Int) * (ra l (c + 1) : Int) = (q2 : Int) := by rw [hq2]; simp
  refine am_spec (plainFor_of_name (by decide +kernel)) (Nat.le_of_ble_eq_true rfl) (L := [some (.ref 180), some (.int (iZ (n : Int)))]) rfl (fun X C T => ?_)
  refine am_aload_n (q := 1) C dX3_farX_0 rfl rfl ?_
  refine am_getIe (q := 4) (v := (iZ (q1 : Int))) C fb_X3_28 dX3_farX_1 rfl rfl kk_180 (show 180 < 215 by decide) (hL.1.trans (congrArg iZ e1)) ?_
  refine am_aload_n (q := 5) C dX3_farX_4 rfl rfl ?_
  refine am_getIe (q := 8) (v := (iZ (q2 : Int))) C fb_X3_34 dX3_farX_5 rfl rfl kk_180 (show 180 < 215 by decide) (hL.2.2.1.trans (congrArg iZ e2)) ?_
  refine am_iaddZ (q := 9) C dX3_farX_8 rfl ?_
  refine am_iload_n (q := 10) C dX3_farX_9 rfl rfl ?_
  refine am_aload_n (q := 11) C dX3_farX_10 rfl rfl ?_
  refine am_getIe (q := 14) (v := (iZ (q1 : Int))) C fb_X3_28 dX3_farX_11 rfl rfl kk_180 (show 180 < 215 by decide) (hL.1.trans (congrArg iZ e1)) ?_
  refine am_aload_n (q := 15) C dX3_farX_14 rfl rfl ?_
  refine am_getIe (q := 18) (v := (iZ (q2 : Int))) C fb_X3_34 dX3_farX_15 rfl rfl kk_180 (show 180 < 215 by decide) (hL.2.2.1.trans (congrArg iZ e2)) ?_
  refine am_callS (q := 21) (As := [.int (iZ (q1 : Int)), .int (iZ (q2 : Int))]) (rest := [.int (iZ (n : Int)), .int (iZ ((q1 : Int) + (q2 : Int)))]) C mb_J9_max_7cf53 st_J9_max_7cf53 ml_X3_73 dX3_farX_18 rfl (sp_max ⟨by omega, by omega⟩ ⟨by omega, by omega⟩) rfl rfl ⟨by decide, by decide⟩ ⟨Nat.le_refl _, Nat.le_refl _⟩ (Nat.le_of_ble_eq_true rfl) (am_rie ?_)
  refine am_intE (show _ = iZ (((max q1 q2 : Nat)) : Int) from congrArg iZ (by omega)) ?_
  refine am_imulZ (q := 22) C dX3_farX_21 rfl ?_
  refine am_iaddZ (q := 23) C dX3_farX_22 rfl ?_
  refine am_iret C T dX3_farX_23 rfl (Nat.le_refl _) (Nat.le_refl _) ⟨_, rfl, ?_⟩
  exact ⟨congrArg iZ (by subst hq1; subst hq2; simp), rfl⟩
set_option maxRecDepth 4000 in
theorem sp_X3_farY {l : List (Nat × Nat)} {P c : Nat} {x y : Int} (hL : atLo I l P c x y) (hP : P ≤ 6) (h1 : rb l c ≤ 4) (h2 : rb l (c + 1) ≤ 4) {n : Nat} (hn : n ≤ 4) : am_S G mX3_farY 2 0 0 [.ref 180, .int (iZ (n : Int))] (215, kK, kR, I, J) (am_fi (iZ ((P * rb l c + P * rb l (c + 1) + n * max (P * rb l c) (P * rb l (c + 1)) : Nat) : Int)) (215, kK, kR, I, J)) := by
  obtain ⟨q1, hq1⟩ : ∃ q, q = P * rb l c := ⟨_, rfl⟩
  obtain ⟨q2, hq2⟩ : ∃ q, q = P * rb l (c + 1) := ⟨_, rfl⟩
  have b1 := Nat.mul_le_mul hP h1
  have b2 := Nat.mul_le_mul hP h2
  have e1 : (P : Int) * (rb l c : Int) = (q1 : Int) := by rw [hq1]; simp
  have e2 : (P : Int) * (rb l (c + 1) : Int) = (q2 : Int) := by rw [hq2]; simp
  refine am_spec (plainFor_of_name (by decide +kernel)) (Nat.le_of_ble_eq_true rfl) (L := [some (.ref 180), some (.int (iZ (n : Int)))]) rfl (fun X C T => ?_)
  refine am_aload_n (q := 1) C dX3_farY_0 rfl rfl ?_
  refine am_getIe (q := 4) (v := (iZ (q1 : Int))) C fb_X3_31 dX3_farY_1 rfl rfl kk_180 (show 180 < 215 by decide) (hL.2.1.trans (congrArg iZ e1)) ?_
  refine am_aload_n (q := 5) C dX3_farY_4 rfl rfl ?_
  refine am_getIe (q := 8) (v := (iZ (q2 : Int))) C fb_X3_37 dX3_farY_5 rfl rfl kk_180 (show 180 < 215 by decide) (hL.2.2.2.1.trans (congrArg iZ e2)) ?_
  refine am_iaddZ (q := 9) C dX3_farY_8 rfl ?_
  refine am_iload_n (q := 10) C dX3_farY_9 rfl rfl ?_
  refine am_aload_n (q := 11) C dX3_farY_10 rfl rfl ?_
  refine am_getIe (q := 14) (v := (iZ (q1 : Int))) C fb_X3_31 dX3_farY_11 rfl rfl kk_180 (show 180 < 215 by decide) (hL.2.1.trans (congrArg iZ e1)) ?_
  refine am_aload_n (q := 15) C dX3_farY_14 rfl rfl ?_
  refine am_getIe (q := 18) (v := (iZ (q2 : Int))) C fb_X3_37 dX3_farY_15 rfl rfl kk_180 (show 180 < 215 by decide) (hL.2.2.2.1.trans (congrArg iZ e2)) ?_
  refine am_callS (q := 21) (As := [.int (iZ (q1 : Int)), .int (iZ (q2 : Int))]) (rest := [.int (iZ (n : Int)), .int (iZ ((q1 : Int) + (q2 : Int)))]) C mb_J9_max_7cf53 st_J9_max_7cf53 ml_X3_73 dX3_farY_18 rfl (sp_max ⟨by omega, by omega⟩ ⟨by omega, by omega⟩) rfl rfl ⟨by decide, by decide⟩ ⟨Nat.le_refl _, Nat.le_refl _⟩ (Nat.le_of_ble_eq_true rfl) (am_rie ?_)
  refine am_intE (show _ = iZ (((max q1 q2 : Nat)) : Int) from congrArg iZ (by omega)) ?_
  refine am_imulZ (q := 22) C dX3_farY_21 rfl ?_
  refine am_iaddZ (q := 23) C dX3_farY_22 rfl ?_
  refine am_iret C T dX3_farY_23 rfl (Nat.le_refl _) (Nat.le_refl _) ⟨_, rfl, ?_⟩
  exact ⟨congrArg iZ (by subst hq1; subst hq2; simp), rfl⟩
set_option maxRecDepth 4000 in
theorem sp_X3_set {g h : Nat} (hg : g ≤ 4) (hh : h ≤ 4) {v : Int64} : am_S G mX3_set 1 0 0 [.ref 180, .int (iZ (g : Int)), .int (iZ (h : Int)), .long v] (215, kK, kR, I, J) (am_fv (215, kK, kR, I, (am_up J 181 (g * 5 + h) v))) := by
  refine am_spec (plainFor_of_name (by decide +kernel)) (Nat.le_of_ble_eq_true rfl) (L := [some (.ref 180), some (.int (iZ (g : Int))), some (.int (iZ (h : Int))), some (.long v), none]) rfl (fun X C T => ?_)
  refine am_iload_n (q := 1) C dX3_set_0 rfl rfl ?_
  refine am_ifZ_lt (q := 4) (tgt := 29) C dX3_set_1 (by decide) rfl ⟨by omega, by omega⟩ (fun q1 => ?_) (fun q1 => ?_)
  · refine am_vret C T dX3_set_29 rfl (Nat.le_refl _) (Nat.le_refl _) ⟨rfl, ?_⟩
    exfalso; omega
  · refine am_iload_n (q := 5) C dX3_set_4 rfl rfl ?_
    refine am_iconst (q := 6) (v := iZ 5) C dX3_set_5 rfl rfl ?_
    refine am_icmpZ_ge (q := 9) (tgt := 29) C dX3_set_6 (by decide) rfl ⟨by omega, by omega⟩ ⟨by omega, by omega⟩ (fun q2 => ?_) (fun q2 => ?_)
    · refine am_vret C T dX3_set_29 rfl (Nat.le_refl _) (Nat.le_refl _) ⟨rfl, ?_⟩
      exfalso; omega
    · refine am_iload_n (q := 10) C dX3_set_9 rfl rfl ?_
      refine am_ifZ_lt (q := 13) (tgt := 29) C dX3_set_10 (by decide) rfl ⟨by omega, by omega⟩ (fun q3 => ?_) (fun q3 => ?_)
      · refine am_vret C T dX3_set_29 rfl (Nat.le_refl _) (Nat.le_refl _) ⟨rfl, ?_⟩
        exfalso; omega
      · refine am_iload_n (q := 14) C dX3_set_13 rfl rfl ?_
        refine am_iconst (q := 15) (v := iZ 5) C dX3_set_14 rfl rfl ?_
        refine am_icmpZ_ge (q := 18) (tgt := 29) C dX3_set_15 (by decide) rfl ⟨by omega, by omega⟩ ⟨by omega, by omega⟩ (fun q4 => ?_) (fun q4 => ?_)
        · refine am_vret C T dX3_set_29 rfl (Nat.le_refl _) (Nat.le_refl _) ⟨rfl, ?_⟩
          exfalso; omega
        · refine am_aload_n (q := 19) C dX3_set_18 rfl rfl ?_
          refine am_getR (q := 22) C fb_X3_11 dX3_set_19 rfl rfl kk_180 (show 180 < 215 by decide) kr_180_0 ?_
          refine am_iload_n (q := 23) C dX3_set_22 rfl rfl ?_
          refine am_iconst (q := 24) (v := iZ 5) C dX3_set_23 rfl rfl ?_
          refine am_imulZ (q := 25) C dX3_set_24 rfl ?_
          refine am_iload_n (q := 26) C dX3_set_25 rfl rfl ?_
          refine am_iaddZ (q := 27) C dX3_set_26 rfl ?_
          refine am_lload_n (q := 28) C dX3_set_27 rfl rfl ?_
          refine am_lastoreZ (q := 29) (g * 5 + h) C dX3_set_28 rfl kk_181 (show 181 < 215 by decide) (by omega) (by omega) (by decide) ?_
          refine am_vret C T dX3_set_29 rfl (Nat.le_refl _) (Nat.le_refl _) ⟨rfl, ?_⟩
          rfl
set_option maxRecDepth 4000 in
theorem sp_X3_differenceAt {g h : Nat} (hg : g ≤ 4) (hh : h ≤ 4) : am_S G mX3_differenceAt 1 0 0 [.ref 180, .int (iZ (g : Int)), .int (iZ (h : Int))] (215, kK, kR, I, J) (am_fl (J 181 (g * 5 + h)) (215, kK, kR, I, J)) := by
  refine am_spec (plainFor_of_name (by decide +kernel)) (Nat.le_of_ble_eq_true rfl) (L := [some (.ref 180), some (.int (iZ (g : Int))), some (.int (iZ (h : Int)))]) rfl (fun X C T => ?_)
  refine am_iload_n (q := 1) C dX3_differenceAt_0 rfl rfl ?_
  refine am_ifZ_lt (q := 4) (tgt := 31) C dX3_differenceAt_1 (by decide) rfl ⟨by omega, by omega⟩ (fun q1 => ?_) (fun q1 => ?_)
  · refine am_lconst (q := 32) (v := lN 0) C dX3_differenceAt_31 rfl rfl ?_
    refine am_lret C T dX3_differenceAt_32 rfl (Nat.le_refl _) (Nat.le_refl _) ⟨_, rfl, ?_⟩
    exfalso; omega
  · refine am_iload_n (q := 5) C dX3_differenceAt_4 rfl rfl ?_
    refine am_iconst (q := 6) (v := iZ 5) C dX3_differenceAt_5 rfl rfl ?_
    refine am_icmpZ_ge (q := 9) (tgt := 31) C dX3_differenceAt_6 (by decide) rfl ⟨by omega, by omega⟩ ⟨by omega, by omega⟩ (fun q2 => ?_) (fun q2 => ?_)
    · refine am_lconst (q := 32) (v := lN 0) C dX3_differenceAt_31 rfl rfl ?_
      refine am_lret C T dX3_differenceAt_32 rfl (Nat.le_refl _) (Nat.le_refl _) ⟨_, rfl, ?_⟩
      exfalso; omega
    · refine am_iload_n (q := 10) C dX3_differenceAt_9 rfl rfl ?_
      refine am_ifZ_lt (q := 13) (tgt := 31) C dX3_differenceAt_10 (by decide) rfl ⟨by omega, by omega⟩ (fun q3 => ?_) (fun q3 => ?_)
      · refine am_lconst (q := 32) (v := lN 0) C dX3_differenceAt_31 rfl rfl ?_
        refine am_lret C T dX3_differenceAt_32 rfl (Nat.le_refl _) (Nat.le_refl _) ⟨_, rfl, ?_⟩
        exfalso; omega
      · refine am_iload_n (q := 14) C dX3_differenceAt_13 rfl rfl ?_
        refine am_iconst (q := 15) (v := iZ 5) C dX3_differenceAt_14 rfl rfl ?_
        refine am_icmpZ_ge (q := 18) (tgt := 31) C dX3_differenceAt_15 (by decide) rfl ⟨by omega, by omega⟩ ⟨by omega, by omega⟩ (fun q4 => ?_) (fun q4 => ?_)
        · refine am_lconst (q := 32) (v := lN 0) C dX3_differenceAt_31 rfl rfl ?_
          refine am_lret C T dX3_differenceAt_32 rfl (Nat.le_refl _) (Nat.le_refl _) ⟨_, rfl, ?_⟩
          exfalso; omega
        · refine am_aload_n (q := 19) C dX3_differenceAt_18 rfl rfl ?_
          refine am_getR (q := 22) C fb_X3_11 dX3_differenceAt_19 rfl rfl kk_180 (show 180 < 215 by decide) kr_180_0 ?_
          refine am_iload_n (q := 23) C dX3_differenceAt_22 rfl rfl ?_
          refine am_iconst (q := 24) (v := iZ 5) C dX3_differenceAt_23 rfl rfl ?_
          refine am_imulZ (q := 25) C dX3_differenceAt_24 rfl ?_
          refine am_iload_n (q := 26) C dX3_differenceAt_25 rfl rfl ?_
          refine am_iaddZ (q := 27) C dX3_differenceAt_26 rfl ?_
          refine am_laloadZ (q := 28) (g * 5 + h) C dX3_differenceAt_27 rfl kk_181 (show 181 < 215 by decide) (by omega) (by omega) (by decide) ?_
          refine am_goto (q := 32) C dX3_differenceAt_28 (by decide) ?_
          refine am_lret C T dX3_differenceAt_32 rfl (Nat.le_refl _) (Nat.le_refl _) ⟨_, rfl, ?_⟩
          exact ⟨rfl, rfl⟩
def chs (n : Int) : Nat → Int64
  | 0 => 1
  | k + 1 => chs n k * Int64.ofInt (n - (k : Int)) / Int64.ofInt ((k : Int) + 1)
theorem k1_nz {k : Nat} (h : k ≤ 10) : Int64.ofInt ((k : Int) + 1) ≠ 0 := (show ∀ k : Nat, k < 11 → Int64.ofInt ((k : Int) + 1) ≠ 0 by decide) k (by omega)
set_option maxRecDepth 4000 in
theorem sp_X3_chooseNext {v : Int64} {n : Int} (hn : -10000 ≤ n ∧ n ≤ 10000) {k : Nat} (hk : k ≤ 10) : am_S G mX3_chooseNext 1 0 0 [.long v, .int (iZ n), .int (iZ (k : Int))] (215, kK, kR, I, J) (am_fl (v * Int64.ofInt (n - (k : Int)) / Int64.ofInt ((k : Int) + 1)) (215, kK, kR, I, J)) := by
  refine am_spec (plainFor_of_name (by decide +kernel)) (Nat.le_of_ble_eq_true rfl) (L := [some (.long v), none, some (.int (iZ n)), some (.int (iZ (k : Int)))]) rfl (fun X C T => ?_)
  refine am_iload_n (q := 1) C dX3_chooseNext_0 rfl rfl ?_
  refine am_ifZ_ge (q := 4) (tgt := 8) C dX3_chooseNext_1 (by decide) rfl ⟨by omega, by omega⟩ (fun q1 => ?_) (fun q1 => ?_)
  · refine am_lload_n (q := 9) C dX3_chooseNext_8 rfl rfl ?_
    refine am_iload_n (q := 10) C dX3_chooseNext_9 rfl rfl ?_
    refine am_iload_n (q := 11) C dX3_chooseNext_10 rfl rfl ?_
    refine am_isubZ (q := 12) C dX3_chooseNext_11 rfl ?_
    refine am_i2lZ (q := 13) C dX3_chooseNext_12 rfl ⟨by omega, by omega⟩ ?_
    refine am_lmul (q := 14) C dX3_chooseNext_13 rfl ?_
    refine am_iload_n (q := 15) C dX3_chooseNext_14 rfl rfl ?_
    refine am_iconst (q := 16) (v := iZ 1) C dX3_chooseNext_15 rfl rfl ?_
    refine am_iaddZ (q := 17) C dX3_chooseNext_16 rfl ?_
    refine am_i2lZ (q := 18) C dX3_chooseNext_17 rfl ⟨by omega, by omega⟩ ?_
    refine am_ldiv (q := 19) C dX3_chooseNext_18 rfl (k1_nz hk) ?_
    refine am_lret C T dX3_chooseNext_19 rfl (Nat.le_refl _) (Nat.le_refl _) ⟨_, rfl, ?_⟩
    exact ⟨rfl, rfl⟩
  · exfalso; omega
