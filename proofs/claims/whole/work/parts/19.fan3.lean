variable {G : am_G} {I : Nat → Nat → Int32} {J : Nat → Nat → Int64}
/-- above 0 if (a, b) goes more up than ray k -/
def crs (l : List (Nat × Nat)) (k a b : Nat) : Int := (ra l k : Int) * (b : Int) - (rb l k : Int) * (a : Int)
/-- how many rays stand ahead of (a, b) -/
def plc : List (Nat × Nat) → Nat → Nat → Nat
  | [], _, _ => 0
  | (c, d) :: l, a, b => if 0 < (c : Int) * (b : Int) - (d : Int) * (a : Int) then plc l a b + 1 else 0
theorem plc_eq : ∀ (l : List (Nat × Nat)) (a b p : Nat), p ≤ l.length → (∀ j, j < p → 0 < crs l j a b) → (p = l.length ∨ crs l p a b ≤ 0) → plc l a b = p
  | [], a, b, p, h, _, _ => by
    have h9 : p = 0 := Nat.le_zero.mp h
    rw [h9]; rfl
  | (c, d) :: l, a, b, p, h, h1, h2 => by
    cases p with
    | zero =>
      rcases h2 with h2 | h2
      · simp at h2
      · have h3 : (c : Int) * (b : Int) - (d : Int) * (a : Int) ≤ 0 := h2
        show (if _ then _ else _) = 0
        rw [if_neg (by omega)]
    | succ p =>
      have h3 : 0 < (c : Int) * (b : Int) - (d : Int) * (a : Int) := h1 0 (by omega)
      show (if _ then _ else _) = p + 1
      rw [if_pos h3, plc_eq l a b p (by simpa using h) (fun j hj => h1 (j + 1) (by omega)) (h2.imp (fun e => by simpa using e) (fun e => e))]
/-- a ray is put in, if it isn't there -/
def insR (l : List (Nat × Nat)) (a b : Nat) : List (Nat × Nat) :=
  if plc l a b < l.length ∧ crs l (plc l a b) a b = 0 then l else l.take (plc l a b) ++ (a / Nat.gcd a b, b / Nat.gcd a b) :: l.drop (plc l a b)
theorem ins_getD {α : Type} (l : List α) (p : Nat) (x d : α) (k : Nat) (hp : p ≤ l.length) : (l.take p ++ x :: l.drop p).getD k d = if k < p then l.getD k d else if k = p then x else l.getD (k - 1) d := by
  have hl : (l.take p).length = p := by simp [hp]
  by_cases h1 : k < p
  · rw [if_pos h1, List.getD_eq_getElem?_getD, List.getElem?_append_left (by omega), List.getElem?_take, if_pos h1, List.getD_eq_getElem?_getD]
  · rw [if_neg h1, List.getD_eq_getElem?_getD, List.getElem?_append_right (by omega), hl]
    by_cases h2 : k = p
    · rw [if_pos h2, h2, Nat.sub_self]; rfl
    · rw [if_neg h2, show k - p = (k - 1 - p) + 1 by omega, List.getElem?_cons_succ, List.getElem?_drop, List.getD_eq_getElem?_getD, show p + (k - 1 - p) = k - 1 by omega]
theorem ins_len {α : Type} (l : List α) (p : Nat) (x : α) (hp : p ≤ l.length) : (l.take p ++ x :: l.drop p).length = l.length + 1 := by simp; omega
theorem crs_rg {l : List (Nat × Nat)} {k a b : Nat} (h1 : ra l k ≤ 4) (h2 : rb l k ≤ 4) (ha : a ≤ 4) (hb : b ≤ 4) : -16 ≤ crs l k a b ∧ crs l k a b ≤ 16 := by
  have e1 := pr44 h1 hb
  have e2 := pr44 h2 ha
  have f1 : (ra l k : Int) * (b : Int) = ((ra l k * b : Nat) : Int) := by simp
  have f2 : (rb l k : Int) * (a : Int) = ((rb l k * a : Nat) : Int) := by simp
  show -16 ≤ _ - _ ∧ _ - _ ≤ 16
  rw [f1, f2]; omega
theorem ins_at {I1 : Nat → Nat → Int32} {l : List (Nat × Nat)} (hF : atF I l) (hl : l.length < 6) {a b p : Nat} (ha : a ≤ 4) (hb : b ≤ 4) (hp : p ≤ l.length) (hpl : plc l a b = p) (hno : ¬ (p < l.length ∧ crs l p a b = 0)) (hI : ∀ x, x ≠ 170 → x ≠ 171 → I1 x = I x) (h70 : ∀ k, k ≤ l.length → I1 170 k = (if k ≤ p then I 170 k else I 170 (k - 1)) ∧ I1 171 k = (if k ≤ p then I 171 k else I 171 (k - 1))) {I2 : Nat → Nat → Int32} (e4 : I2 169 4 = iZ (l.length + 1 : Nat)) (ea : ∀ k, I2 170 k = if k = p then iZ ((a / Nat.gcd a b : Nat) : Int) else I1 170 k) (eb : ∀ k, I2 171 k = if k = p then iZ ((b / Nat.gcd a b : Nat) : Int) else I1 171 k) : atF I2 (insR l a b) := by
  unfold insR
  rw [hpl, if_neg hno]
  obtain ⟨f1, f2, f3⟩ := hF
  refine ⟨by rw [ins_len _ _ _ hp]; exact e4, by rw [ins_len _ _ _ hp]; omega, fun k hk => ?_⟩
  rw [ins_len _ _ _ hp] at hk
  rw [ins_getD _ _ _ _ _ hp]
  have g1 := Nat.div_le_self a (Nat.gcd a b)
  have g2 := Nat.div_le_self b (Nat.gcd a b)
  rcases Nat.lt_trichotomy k p with h | h | h
  · rw [if_pos h, ea, eb, if_neg (by omega), if_neg (by omega), (h70 k (by omega)).1, (h70 k (by omega)).2, if_pos (by omega), if_pos (by omega)]
    exact f3 k (by omega)
  · rw [if_neg (by omega), if_pos h, ea, eb, if_pos h, if_pos h]
    exact ⟨rfl, rfl, by show a / Nat.gcd a b ≤ 4; omega, by show b / Nat.gcd a b ≤ 4; omega⟩
  · rw [if_neg (by omega), if_neg (by omega), ea, eb, if_neg (by omega), if_neg (by omega), (h70 k (by omega)).1, (h70 k (by omega)).2, if_neg (by omega), if_neg (by omega)]
    exact f3 (k - 1) (by omega)
set_option maxRecDepth 4000 in
theorem sp_X1_addRay {l : List (Nat × Nat)} (hF : atF I l) (hl : l.length < 6) {a b : Nat} (ha : a ≤ 4) (hb : b ≤ 4) (hab : 1 ≤ a + b) : am_S G mX1_addRay 3 0 0 [.ref 169, .int (iZ (a : Int)), .int (iZ (b : Int))] (215, kK, kR, I, J) (am_qv (fun w' => ∃ I' : Nat → Nat → Int32, w' = (215, kK, kR, I', J) ∧ atF I' (insR l a b) ∧ (∀ x, x ≠ 169 → x ≠ 170 → x ≠ 171 → I' x = I x) ∧ ∀ k, k ≠ 4 → I' 169 k = I 169 k)) := by
  have f1 := hF.1
  have f2 := hF.2.1
  have f3 := hF.2.2
  have hg := gcd_le ha hb hab
  refine am_spec (plainFor_of_name (by decide +kernel)) (Nat.le_of_ble_eq_true rfl) (L := [some (.ref 169), some (.int (iZ (a : Int))), some (.int (iZ (b : Int))), none, none, none]) rfl (fun X C T => ?_)
  have mid : ∀ p : Nat, p ≤ l.length → (∀ j, j < p → 0 < crs l j a b) → (p = l.length ∨ crs l p a b ≤ 0) → am_A G mX1_addRay X (am_rm 3 0 0) 42 [some (.ref 169), some (.int (iZ (a : Int))), some (.int (iZ (b : Int))), some (.int (iZ (p : Int))), none, none] [] (215, kK, kR, I, J) 0 0 := by
    intro p hp hj hpe
    have hpl := plc_eq l a b p hp hj hpe
    have lp2 : ∀ (fuel : Nat) (r : Nat) (I1 : Nat → Nat → Int32), (p ≤ r) → (r ≤ l.length) → (∀ x, x ≠ 170 → x ≠ 171 → I1 x = I x) → (∀ k, k ≤ l.length → I1 170 k = (if k ≤ r then I 170 k else I 170 (k - 1)) ∧ I1 171 k = (if k ≤ r then I 171 k else I 171 (k - 1))) → (¬ (p < l.length ∧ crs l p a b = 0)) → (r - p) < fuel → am_A G mX1_addRay X (am_rm 3 0 0) 105 [some (.ref 169), some (.int (iZ (a : Int))), some (.int (iZ (b : Int))), some (.int (iZ (p : Int))), some (.int (iZ 0)), some (.int (iZ (r : Int)))] [] (215, kK, kR, I1, J) 0 0 := by
      intro fuel
      induction fuel with
      | zero => intro r I1 hr hr2 hI h70 hno hf; exact absurd hf (Nat.not_lt_zero _)
      | succ fuel ih =>
        intro r I1 hr hr2 hI h70 hno hf
        refine am_iload (q := 107) C dX1_addRay_105 rfl rfl ?_
        refine am_iload_n (q := 108) C dX1_addRay_107 rfl rfl ?_
        refine am_icmpZ_le (q := 111) (tgt := 154) C dX1_addRay_108 (by decide) rfl ⟨by omega, by omega⟩ ⟨by omega, by omega⟩ (fun h1 => ?_) (fun h1 => ?_)
        · refine am_iload_n (q := 155) C dX1_addRay_154 rfl rfl ?_
          refine am_iload_n (q := 156) C dX1_addRay_155 rfl rfl ?_
          refine am_callS (q := 159) (As := [.int (iZ (a : Int)), .int (iZ (b : Int))]) (rest := []) C mb_X1_commonDivisor st_X1_commonDivisor ml_X1_73 dX1_addRay_156 rfl (sp_X1_commonDivisor ha hb hab) rfl rfl ⟨by decide, by decide⟩ ⟨Nat.le_refl _, Nat.le_refl _⟩ (by decide) (am_rie ?_)
          refine am_istore (q := 161) (L' := [some (.ref 169), some (.int (iZ (a : Int))), some (.int (iZ (b : Int))), some (.int (iZ (p : Int))), some (.int (iZ 0)), some (.int (iZ (Nat.gcd a b : Int)))]) C dX1_addRay_159 rfl (by decide) rfl rfl ?_
          refine am_aload_n (q := 162) C dX1_addRay_161 rfl rfl ?_
          refine am_getR (q := 165) C fb_X1_9 dX1_addRay_162 rfl rfl kk_169 (show 169 < 215 by decide) kr_169_0 ?_
          refine am_iload_n (q := 166) C dX1_addRay_165 rfl rfl ?_
          refine am_iload (q := 168) C dX1_addRay_166 rfl rfl ?_
          refine am_iconst (q := 169) (v := iZ 1) C dX1_addRay_168 rfl rfl ?_
          refine am_icmpZ_ge (q := 172) (tgt := 176) C dX1_addRay_169 (by decide) rfl ⟨by omega, by omega⟩ ⟨by omega, by omega⟩ (fun h2 => ?_) (fun h2 => ?_)
          · refine am_iload_n (q := 177) C dX1_addRay_176 rfl rfl ?_
            refine am_iload (q := 179) C dX1_addRay_177 rfl rfl ?_
            refine am_idivZ (q := 180) C dX1_addRay_179 rfl ⟨by omega, by omega⟩ ⟨by omega, by omega⟩ (by omega) (by omega) ?_
            refine am_intE (y := (iZ ((a / Nat.gcd a b : Nat) : Int))) rfl ?_
            refine am_iastoreZ (q := 181) p C dX1_addRay_180 rfl kk_170 (show 170 < 215 by decide) rfl (by omega) (by decide) ?_
            refine am_aload_n (q := 182) C dX1_addRay_181 rfl rfl ?_
            refine am_getR (q := 185) C fb_X1_15 dX1_addRay_182 rfl rfl kk_169 (show 169 < 215 by decide) kr_169_1 ?_
            refine am_iload_n (q := 186) C dX1_addRay_185 rfl rfl ?_
            refine am_iload (q := 188) C dX1_addRay_186 rfl rfl ?_
            refine am_iconst (q := 189) (v := iZ 1) C dX1_addRay_188 rfl rfl ?_
            refine am_icmpZ_ge (q := 192) (tgt := 196) C dX1_addRay_189 (by decide) rfl ⟨by omega, by omega⟩ ⟨by omega, by omega⟩ (fun h3 => ?_) (fun h3 => ?_)
            · refine am_iload_n (q := 197) C dX1_addRay_196 rfl rfl ?_
              refine am_iload (q := 199) C dX1_addRay_197 rfl rfl ?_
              refine am_idivZ (q := 200) C dX1_addRay_199 rfl ⟨by omega, by omega⟩ ⟨by omega, by omega⟩ (by omega) (by omega) ?_
              refine am_intE (y := (iZ ((b / Nat.gcd a b : Nat) : Int))) rfl ?_
              refine am_iastoreZ (q := 201) p C dX1_addRay_200 rfl kk_171 (show 171 < 215 by decide) rfl (by omega) (by decide) ?_
              refine am_aload_n (q := 202) C dX1_addRay_201 rfl rfl ?_
              refine am_dup (q := 203) C dX1_addRay_202 rfl rfl ?_
              refine am_getIe (q := 206) (v := (iZ (l.length : Int))) C fb_X1_24 dX1_addRay_203 rfl rfl kk_169 (show 169 < 215 by decide) (by rw [am_up_row _ _ _ _ (by omega), am_up_row _ _ _ _ (by omega), hI 169 (by omega) (by omega)]; exact f1) ?_
              refine am_iconst (q := 207) (v := iZ 1) C dX1_addRay_206 rfl rfl ?_
              refine am_iaddZ (q := 208) C dX1_addRay_207 rfl ?_
              refine am_putI (q := 211) C fw_X1_24 dX1_addRay_208 rfl rfl kk_169 (show 169 < 215 by decide) ?_
              refine am_vret C T dX1_addRay_211 rfl (Nat.le_refl _) (Nat.le_refl _) ⟨rfl, ?_⟩
              refine ⟨_, rfl, ins_at hF hl ha hb hp hpl hno hI (fun k hk => ?_) (by rw [am_up_eq]; rfl) (fun k => ?_) (fun k => ?_), fun x h1 h2 h3 => by rw [am_up_row _ _ _ _ h1, am_up_row _ _ _ _ h3, am_up_row _ _ _ _ h2, hI x h2 h3], fun k hk => by rw [am_up_ne _ _ _ _ (Or.inr hk), am_up_row _ _ _ _ (by omega), am_up_row _ _ _ _ (by omega), hI 169 (by omega) (by omega)]⟩
              · have h9 := h70 k hk
                rw [show r = p by omega] at h9; exact h9
              · by_cases e : k = p
                · subst e; simp [am_up]
                · simp [am_up, e]
              · by_cases e : k = p
                · subst e; simp [am_up]
                · simp [am_up, e]
            · exact absurd h3 (by omega)
          · exact absurd h2 (by omega)
        · refine am_iload (q := 113) C dX1_addRay_111 rfl rfl ?_
          refine am_ifZ_le (q := 116) (tgt := 154) C dX1_addRay_113 (by decide) rfl ⟨by omega, by omega⟩ (fun h4 => ?_) (fun h4 => ?_)
          · refine am_iload_n (q := 155) C dX1_addRay_154 rfl rfl ?_
            refine am_iload_n (q := 156) C dX1_addRay_155 rfl rfl ?_
            refine am_callS (q := 159) (As := [.int (iZ (a : Int)), .int (iZ (b : Int))]) (rest := []) C mb_X1_commonDivisor st_X1_commonDivisor ml_X1_73 dX1_addRay_156 rfl (sp_X1_commonDivisor ha hb hab) rfl rfl ⟨by decide, by decide⟩ ⟨Nat.le_refl _, Nat.le_refl _⟩ (by decide) (am_rie ?_)
            refine am_istore (q := 161) (L' := [some (.ref 169), some (.int (iZ (a : Int))), some (.int (iZ (b : Int))), some (.int (iZ (p : Int))), some (.int (iZ 0)), some (.int (iZ (Nat.gcd a b : Int)))]) C dX1_addRay_159 rfl (by decide) rfl rfl ?_
            refine am_aload_n (q := 162) C dX1_addRay_161 rfl rfl ?_
            refine am_getR (q := 165) C fb_X1_9 dX1_addRay_162 rfl rfl kk_169 (show 169 < 215 by decide) kr_169_0 ?_
            refine am_iload_n (q := 166) C dX1_addRay_165 rfl rfl ?_
            refine am_iload (q := 168) C dX1_addRay_166 rfl rfl ?_
            refine am_iconst (q := 169) (v := iZ 1) C dX1_addRay_168 rfl rfl ?_
            refine am_icmpZ_ge (q := 172) (tgt := 176) C dX1_addRay_169 (by decide) rfl ⟨by omega, by omega⟩ ⟨by omega, by omega⟩ (fun h5 => ?_) (fun h5 => ?_)
            · refine am_iload_n (q := 177) C dX1_addRay_176 rfl rfl ?_
              refine am_iload (q := 179) C dX1_addRay_177 rfl rfl ?_
              refine am_idivZ (q := 180) C dX1_addRay_179 rfl ⟨by omega, by omega⟩ ⟨by omega, by omega⟩ (by omega) (by omega) ?_
              refine am_intE (y := (iZ ((a / Nat.gcd a b : Nat) : Int))) rfl ?_
              refine am_iastoreZ (q := 181) p C dX1_addRay_180 rfl kk_170 (show 170 < 215 by decide) rfl (by omega) (by decide) ?_
              refine am_aload_n (q := 182) C dX1_addRay_181 rfl rfl ?_
              refine am_getR (q := 185) C fb_X1_15 dX1_addRay_182 rfl rfl kk_169 (show 169 < 215 by decide) kr_169_1 ?_
              refine am_iload_n (q := 186) C dX1_addRay_185 rfl rfl ?_
              refine am_iload (q := 188) C dX1_addRay_186 rfl rfl ?_
              refine am_iconst (q := 189) (v := iZ 1) C dX1_addRay_188 rfl rfl ?_
              refine am_icmpZ_ge (q := 192) (tgt := 196) C dX1_addRay_189 (by decide) rfl ⟨by omega, by omega⟩ ⟨by omega, by omega⟩ (fun h6 => ?_) (fun h6 => ?_)
              · refine am_iload_n (q := 197) C dX1_addRay_196 rfl rfl ?_
                refine am_iload (q := 199) C dX1_addRay_197 rfl rfl ?_
                refine am_idivZ (q := 200) C dX1_addRay_199 rfl ⟨by omega, by omega⟩ ⟨by omega, by omega⟩ (by omega) (by omega) ?_
                refine am_intE (y := (iZ ((b / Nat.gcd a b : Nat) : Int))) rfl ?_
                refine am_iastoreZ (q := 201) p C dX1_addRay_200 rfl kk_171 (show 171 < 215 by decide) rfl (by omega) (by decide) ?_
                refine am_aload_n (q := 202) C dX1_addRay_201 rfl rfl ?_
                refine am_dup (q := 203) C dX1_addRay_202 rfl rfl ?_
                refine am_getIe (q := 206) (v := (iZ (l.length : Int))) C fb_X1_24 dX1_addRay_203 rfl rfl kk_169 (show 169 < 215 by decide) (by rw [am_up_row _ _ _ _ (by omega), am_up_row _ _ _ _ (by omega), hI 169 (by omega) (by omega)]; exact f1) ?_
                refine am_iconst (q := 207) (v := iZ 1) C dX1_addRay_206 rfl rfl ?_
                refine am_iaddZ (q := 208) C dX1_addRay_207 rfl ?_
                refine am_putI (q := 211) C fw_X1_24 dX1_addRay_208 rfl rfl kk_169 (show 169 < 215 by decide) ?_
                refine am_vret C T dX1_addRay_211 rfl (Nat.le_refl _) (Nat.le_refl _) ⟨rfl, ?_⟩
                refine ⟨_, rfl, ins_at hF hl ha hb hp hpl hno hI (fun k hk => ?_) (by rw [am_up_eq]; rfl) (fun k => ?_) (fun k => ?_), fun x h1 h2 h3 => by rw [am_up_row _ _ _ _ h1, am_up_row _ _ _ _ h3, am_up_row _ _ _ _ h2, hI x h2 h3], fun k hk => by rw [am_up_ne _ _ _ _ (Or.inr hk), am_up_row _ _ _ _ (by omega), am_up_row _ _ _ _ (by omega), hI 169 (by omega) (by omega)]⟩
                · have h9 := h70 k hk
                  rw [show r = p by omega] at h9; exact h9
                · by_cases e : k = p
                  · subst e; simp [am_up]
                  · simp [am_up, e]
                · by_cases e : k = p
                  · subst e; simp [am_up]
                  · simp [am_up, e]
              · exact absurd h6 (by omega)
            · exact absurd h5 (by omega)
          · refine am_aload_n (q := 117) C dX1_addRay_116 rfl rfl ?_
            refine am_getR (q := 120) C fb_X1_9 dX1_addRay_117 rfl rfl kk_169 (show 169 < 215 by decide) kr_169_0 ?_
            refine am_iload (q := 122) C dX1_addRay_120 rfl rfl ?_
            refine am_aload_n (q := 123) C dX1_addRay_122 rfl rfl ?_
            refine am_getR (q := 126) C fb_X1_9 dX1_addRay_123 rfl rfl kk_169 (show 169 < 215 by decide) kr_169_0 ?_
            refine am_iload (q := 128) C dX1_addRay_126 rfl rfl ?_
            refine am_iconst (q := 129) (v := iZ 1) C dX1_addRay_128 rfl rfl ?_
            refine am_isubZ (q := 130) C dX1_addRay_129 rfl ?_
            refine am_ialoadZ (q := 131) (r - 1) C dX1_addRay_130 rfl kk_170 (show 170 < 215 by decide) (by omega) (by omega) (by decide) ?_
            refine am_iastoreZ (q := 132) r C dX1_addRay_131 rfl kk_170 (show 170 < 215 by decide) rfl (by omega) (by decide) ?_
            refine am_aload_n (q := 133) C dX1_addRay_132 rfl rfl ?_
            refine am_getR (q := 136) C fb_X1_15 dX1_addRay_133 rfl rfl kk_169 (show 169 < 215 by decide) kr_169_1 ?_
            refine am_iload (q := 138) C dX1_addRay_136 rfl rfl ?_
            refine am_aload_n (q := 139) C dX1_addRay_138 rfl rfl ?_
            refine am_getR (q := 142) C fb_X1_15 dX1_addRay_139 rfl rfl kk_169 (show 169 < 215 by decide) kr_169_1 ?_
            refine am_iload (q := 144) C dX1_addRay_142 rfl rfl ?_
            refine am_iconst (q := 145) (v := iZ 1) C dX1_addRay_144 rfl rfl ?_
            refine am_isubZ (q := 146) C dX1_addRay_145 rfl ?_
            refine am_ialoadZ (q := 147) (r - 1) C dX1_addRay_146 rfl kk_171 (show 171 < 215 by decide) (by omega) (by omega) (by decide) ?_
            refine am_iastoreZ (q := 148) r C dX1_addRay_147 rfl kk_171 (show 171 < 215 by decide) rfl (by omega) (by decide) ?_
            refine am_iincZ (q := 151) (L' := [some (.ref 169), some (.int (iZ (a : Int))), some (.int (iZ (b : Int))), some (.int (iZ (p : Int))), some (.int (iZ 0)), some (.int (iZ ((r : Int) - 1)))]) C dX1_addRay_148 rfl rfl (by omega) (by decide) rfl rfl ?_
            refine am_goto (q := 105) C dX1_addRay_151 (by decide) ?_
            rw [show ((r : Int) - 1) = ((r - 1 : Nat) : Int) by omega]
            exact ih (r - 1) _ (by omega) (by omega) (fun x h1 h2 => by rw [am_up_row _ _ _ _ h2, am_up_row _ _ _ _ h1, hI x h1 h2]) (fun k hk => by
              have h9 := h70 k hk
              have h8 := h70 (r - 1) (by omega)
              rw [if_pos (by omega), if_pos (by omega)] at h8
              by_cases e : k = r
              · subst e
                simp [am_up]
                rw [if_neg (by omega), if_neg (by omega)]; exact h8
              · simp [am_up, e]
                rw [h9.1, h9.2]
                by_cases e2 : k ≤ r - 1
                · rw [if_pos e2, if_pos e2, if_pos (by omega), if_pos (by omega)]; exact ⟨rfl, rfl⟩
                · rw [if_neg e2, if_neg e2, if_neg (by omega), if_neg (by omega)]; exact ⟨rfl, rfl⟩) hno (by omega)
    refine am_aload_n (q := 43) C dX1_addRay_42 rfl rfl ?_
    refine am_iload_n (q := 44) C dX1_addRay_43 rfl rfl ?_
    refine am_callV (q := 47) (As := [.int (iZ (p : Int))]) (rest := []) C mb_X1_hasRay im_X1_hasRay se_X1_hasRay ml_X1_65 cb_1 kk_169 (show 169 < 215 by decide) dX1_addRay_44 rfl (sp_X1_hasRay hF (p := (p : Int)) ⟨by omega, by omega⟩) rfl rfl ⟨by decide, by decide⟩ ⟨Nat.le_refl _, Nat.le_refl _⟩ (by decide) (am_rie ?_)
    refine am_ifB_eq (q := 50) (tgt := 74) C dX1_addRay_47 (by decide) rfl (fun h7 => ?_) (fun h7 => ?_)
    · refine am_iconst (q := 75) (v := iZ 0) C dX1_addRay_74 rfl rfl ?_
      refine am_istore (q := 77) (L' := [some (.ref 169), some (.int (iZ (a : Int))), some (.int (iZ (b : Int))), some (.int (iZ (p : Int))), some (.int (iZ 0)), none]) C dX1_addRay_75 rfl (by decide) rfl rfl ?_
      refine am_iload (q := 79) C dX1_addRay_77 rfl rfl ?_
      refine am_ifZ_ne (q := 82) (tgt := 98) C dX1_addRay_79 (by decide) rfl ⟨by omega, by omega⟩ (fun h8 => ?_) (fun h8 => ?_)
      · exact absurd h8 (by decide)
      · refine am_aload_n (q := 83) C dX1_addRay_82 rfl rfl ?_
        refine am_getIe (q := 86) (v := (iZ (l.length : Int))) C fb_X1_24 dX1_addRay_83 rfl rfl kk_169 (show 169 < 215 by decide) f1 ?_
        refine am_ifZ_lt (q := 89) (tgt := 98) C dX1_addRay_86 (by decide) rfl ⟨by omega, by omega⟩ (fun h9 => ?_) (fun h9 => ?_)
        · exact absurd h9 (by omega)
        · refine am_aload_n (q := 90) C dX1_addRay_89 rfl rfl ?_
          refine am_getIe (q := 93) (v := (iZ (l.length : Int))) C fb_X1_24 dX1_addRay_90 rfl rfl kk_169 (show 169 < 215 by decide) f1 ?_
          refine am_bipush (q := 95) (v := iZ 6) C dX1_addRay_93 rfl rfl ?_
          refine am_icmpZ_lt (q := 98) (tgt := 99) C dX1_addRay_95 (by decide) rfl ⟨by omega, by omega⟩ ⟨by omega, by omega⟩ (fun h10 => ?_) (fun h10 => ?_)
          · refine am_aload_n (q := 100) C dX1_addRay_99 rfl rfl ?_
            refine am_getIe (q := 103) (v := (iZ (l.length : Int))) C fb_X1_24 dX1_addRay_100 rfl rfl kk_169 (show 169 < 215 by decide) f1 ?_
            refine am_istore (q := 105) (L' := [some (.ref 169), some (.int (iZ (a : Int))), some (.int (iZ (b : Int))), some (.int (iZ (p : Int))), some (.int (iZ 0)), some (.int (iZ (l.length : Int)))]) C dX1_addRay_103 rfl (by decide) rfl rfl ?_
            exact lp2 (l.length + 1) l.length I hp (Nat.le_refl _) (fun x _ _ => rfl) (fun k hk => by rw [if_pos hk, if_pos hk]; exact ⟨rfl, rfl⟩) (by omega) (by omega)
          · exact absurd h10 (by omega)
    · refine am_aload_n (q := 51) C dX1_addRay_50 rfl rfl ?_
      refine am_getR (q := 54) C fb_X1_9 dX1_addRay_51 rfl rfl kk_169 (show 169 < 215 by decide) kr_169_0 ?_
      refine am_iload_n (q := 55) C dX1_addRay_54 rfl rfl ?_
      refine am_ialoadZ (q := 56) p C dX1_addRay_55 rfl kk_170 (show 170 < 215 by decide) rfl (by omega) (by decide) ?_
      refine am_intE (y := (iZ (ra l p : Int))) (f3 p (by omega)).1 ?_
      refine am_aload_n (q := 57) C dX1_addRay_56 rfl rfl ?_
      refine am_getR (q := 60) C fb_X1_15 dX1_addRay_57 rfl rfl kk_169 (show 169 < 215 by decide) kr_169_1 ?_
      refine am_iload_n (q := 61) C dX1_addRay_60 rfl rfl ?_
      refine am_ialoadZ (q := 62) p C dX1_addRay_61 rfl kk_171 (show 171 < 215 by decide) rfl (by omega) (by decide) ?_
      refine am_intE (y := (iZ (rb l p : Int))) (f3 p (by omega)).2.1 ?_
      refine am_iload_n (q := 63) C dX1_addRay_62 rfl rfl ?_
      refine am_iload_n (q := 64) C dX1_addRay_63 rfl rfl ?_
      refine am_callS (q := 67) (As := [.int (iZ (ra l p : Int)), .int (iZ (rb l p : Int)), .int (iZ (a : Int)), .int (iZ (b : Int))]) (rest := []) C mb_X1_turn st_X1_turn ml_X1_69 dX1_addRay_64 rfl (sp_X1_turn (ra l p : Int) (rb l p : Int) (a : Int) (b : Int)) rfl rfl ⟨by decide, by decide⟩ ⟨Nat.le_refl _, Nat.le_refl _⟩ (by decide) (am_rie ?_)
      refine am_intE (show _ = iZ (crs l p a b) from rfl) ?_
      refine am_ifZ_ne (q := 70) (tgt := 74) C dX1_addRay_67 (by decide) rfl ⟨by have := crs_rg (f3 p (by omega)).2.2.1 (f3 p (by omega)).2.2.2 ha hb; omega, by have := crs_rg (f3 p (by omega)).2.2.1 (f3 p (by omega)).2.2.2 ha hb; omega⟩ (fun h11 => ?_) (fun h11 => ?_)
      · refine am_iconst (q := 75) (v := iZ 0) C dX1_addRay_74 rfl rfl ?_
        refine am_istore (q := 77) (L' := [some (.ref 169), some (.int (iZ (a : Int))), some (.int (iZ (b : Int))), some (.int (iZ (p : Int))), some (.int (iZ 0)), none]) C dX1_addRay_75 rfl (by decide) rfl rfl ?_
        refine am_iload (q := 79) C dX1_addRay_77 rfl rfl ?_
        refine am_ifZ_ne (q := 82) (tgt := 98) C dX1_addRay_79 (by decide) rfl ⟨by omega, by omega⟩ (fun h12 => ?_) (fun h12 => ?_)
        · exact absurd h12 (by decide)
        · refine am_aload_n (q := 83) C dX1_addRay_82 rfl rfl ?_
          refine am_getIe (q := 86) (v := (iZ (l.length : Int))) C fb_X1_24 dX1_addRay_83 rfl rfl kk_169 (show 169 < 215 by decide) f1 ?_
          refine am_ifZ_lt (q := 89) (tgt := 98) C dX1_addRay_86 (by decide) rfl ⟨by omega, by omega⟩ (fun h13 => ?_) (fun h13 => ?_)
          · exact absurd h13 (by omega)
          · refine am_aload_n (q := 90) C dX1_addRay_89 rfl rfl ?_
            refine am_getIe (q := 93) (v := (iZ (l.length : Int))) C fb_X1_24 dX1_addRay_90 rfl rfl kk_169 (show 169 < 215 by decide) f1 ?_
            refine am_bipush (q := 95) (v := iZ 6) C dX1_addRay_93 rfl rfl ?_
            refine am_icmpZ_lt (q := 98) (tgt := 99) C dX1_addRay_95 (by decide) rfl ⟨by omega, by omega⟩ ⟨by omega, by omega⟩ (fun h14 => ?_) (fun h14 => ?_)
            · refine am_aload_n (q := 100) C dX1_addRay_99 rfl rfl ?_
              refine am_getIe (q := 103) (v := (iZ (l.length : Int))) C fb_X1_24 dX1_addRay_100 rfl rfl kk_169 (show 169 < 215 by decide) f1 ?_
              refine am_istore (q := 105) (L' := [some (.ref 169), some (.int (iZ (a : Int))), some (.int (iZ (b : Int))), some (.int (iZ (p : Int))), some (.int (iZ 0)), some (.int (iZ (l.length : Int)))]) C dX1_addRay_103 rfl (by decide) rfl rfl ?_
              exact lp2 (l.length + 1) l.length I hp (Nat.le_refl _) (fun x _ _ => rfl) (fun k hk => by rw [if_pos hk, if_pos hk]; exact ⟨rfl, rfl⟩) (by omega) (by omega)
            · exact absurd h14 (by omega)
      · refine am_iconst (q := 71) (v := iZ 1) C dX1_addRay_70 rfl rfl ?_
        refine am_goto (q := 75) C dX1_addRay_71 (by decide) ?_
        refine am_istore (q := 77) (L' := [some (.ref 169), some (.int (iZ (a : Int))), some (.int (iZ (b : Int))), some (.int (iZ (p : Int))), some (.int (iZ 1)), none]) C dX1_addRay_75 rfl (by decide) rfl rfl ?_
        refine am_iload (q := 79) C dX1_addRay_77 rfl rfl ?_
        refine am_ifZ_ne (q := 82) (tgt := 98) C dX1_addRay_79 (by decide) rfl ⟨by omega, by omega⟩ (fun h15 => ?_) (fun h15 => ?_)
        · refine am_vret C T dX1_addRay_98 rfl (Nat.le_refl _) (Nat.le_refl _) ⟨rfl, ?_⟩
          exact ⟨I, rfl, by unfold insR; rw [hpl, if_pos ⟨by omega, by omega⟩]; exact hF, fun x _ _ _ => rfl, fun k _ => rfl⟩
        · exact absurd h15 (by decide)
  have lp1 : ∀ (fuel : Nat) (p : Nat), (p ≤ l.length) → (∀ j, j < p → 0 < crs l j a b) → (l.length - p) < fuel → am_A G mX1_addRay X (am_rm 3 0 0) 2 [some (.ref 169), some (.int (iZ (a : Int))), some (.int (iZ (b : Int))), some (.int (iZ (p : Int))), none, none] [] (215, kK, kR, I, J) 0 0 := by
    intro fuel
    induction fuel with
    | zero => intro p hp hj hf; exact absurd hf (Nat.not_lt_zero _)
    | succ fuel ih =>
      intro p hp hj hf
      refine am_iload_n (q := 3) C dX1_addRay_2 rfl rfl ?_
      refine am_bipush (q := 5) (v := iZ 6) C dX1_addRay_3 rfl rfl ?_
      refine am_icmpZ_ge (q := 8) (tgt := 42) C dX1_addRay_5 (by decide) rfl ⟨by omega, by omega⟩ ⟨by omega, by omega⟩ (fun h16 => ?_) (fun h16 => ?_)
      · exact mid p hp hj (by omega)
      · refine am_aload_n (q := 9) C dX1_addRay_8 rfl rfl ?_
        refine am_iload_n (q := 10) C dX1_addRay_9 rfl rfl ?_
        refine am_callV (q := 13) (As := [.int (iZ (p : Int))]) (rest := []) C mb_X1_hasRay im_X1_hasRay se_X1_hasRay ml_X1_65 cb_1 kk_169 (show 169 < 215 by decide) dX1_addRay_10 rfl (sp_X1_hasRay hF (p := (p : Int)) ⟨by omega, by omega⟩) rfl rfl ⟨by decide, by decide⟩ ⟨Nat.le_refl _, Nat.le_refl _⟩ (by decide) (am_rie ?_)
        refine am_ifB_eq (q := 16) (tgt := 42) C dX1_addRay_13 (by decide) rfl (fun h17 => ?_) (fun h17 => ?_)
        · exact mid p hp hj (by omega)
        · refine am_aload_n (q := 17) C dX1_addRay_16 rfl rfl ?_
          refine am_getR (q := 20) C fb_X1_9 dX1_addRay_17 rfl rfl kk_169 (show 169 < 215 by decide) kr_169_0 ?_
          refine am_iload_n (q := 21) C dX1_addRay_20 rfl rfl ?_
          refine am_ialoadZ (q := 22) p C dX1_addRay_21 rfl kk_170 (show 170 < 215 by decide) rfl (by omega) (by decide) ?_
          refine am_intE (y := (iZ (ra l p : Int))) (f3 p (by omega)).1 ?_
          refine am_aload_n (q := 23) C dX1_addRay_22 rfl rfl ?_
          refine am_getR (q := 26) C fb_X1_15 dX1_addRay_23 rfl rfl kk_169 (show 169 < 215 by decide) kr_169_1 ?_
          refine am_iload_n (q := 27) C dX1_addRay_26 rfl rfl ?_
          refine am_ialoadZ (q := 28) p C dX1_addRay_27 rfl kk_171 (show 171 < 215 by decide) rfl (by omega) (by decide) ?_
          refine am_intE (y := (iZ (rb l p : Int))) (f3 p (by omega)).2.1 ?_
          refine am_iload_n (q := 29) C dX1_addRay_28 rfl rfl ?_
          refine am_iload_n (q := 30) C dX1_addRay_29 rfl rfl ?_
          refine am_callS (q := 33) (As := [.int (iZ (ra l p : Int)), .int (iZ (rb l p : Int)), .int (iZ (a : Int)), .int (iZ (b : Int))]) (rest := []) C mb_X1_turn st_X1_turn ml_X1_69 dX1_addRay_30 rfl (sp_X1_turn (ra l p : Int) (rb l p : Int) (a : Int) (b : Int)) rfl rfl ⟨by decide, by decide⟩ ⟨Nat.le_refl _, Nat.le_refl _⟩ (by decide) (am_rie ?_)
          refine am_intE (show _ = iZ (crs l p a b) from rfl) ?_
          refine am_ifZ_le (q := 36) (tgt := 42) C dX1_addRay_33 (by decide) rfl ⟨by have := crs_rg (f3 p (by omega)).2.2.1 (f3 p (by omega)).2.2.2 ha hb; omega, by have := crs_rg (f3 p (by omega)).2.2.1 (f3 p (by omega)).2.2.2 ha hb; omega⟩ (fun h18 => ?_) (fun h18 => ?_)
          · exact mid p hp hj (by omega)
          · refine am_iincZ (q := 39) (L' := [some (.ref 169), some (.int (iZ (a : Int))), some (.int (iZ (b : Int))), some (.int (iZ ((p + 1 : Nat) : Int))), none, none]) C dX1_addRay_36 rfl rfl (by omega) (by decide) rfl rfl ?_
            refine am_goto (q := 2) C dX1_addRay_39 (by decide) ?_
            exact ih (p + 1) (by omega) (fun j h => by
              by_cases e : j = p
              · rw [e]; omega
              · exact hj j (by omega)) (by omega)
  refine am_iconst (q := 1) (v := iZ 0) C dX1_addRay_0 rfl rfl ?_
  refine am_istore_n (q := 2) (L' := [some (.ref 169), some (.int (iZ (a : Int))), some (.int (iZ (b : Int))), some (.int (iZ 0)), none, none]) C dX1_addRay_1 rfl (by decide) rfl rfl ?_
  exact lp1 (l.length + 1) 0 (by omega) (fun j h => absurd h (Nat.not_lt_zero _)) (by omega)
