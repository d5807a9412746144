variable {G : am_G} {I : Nat → Nat → Int32} {J : Nat → Nat → Int64}
theorem home_eq (a b c d x y P i j : Int) : (a * d - b * c) * (x - i * (P * a) - j * (P * c)) = (x * d - y * c - (P * (a * d - b * c)) * i) * a + (a * y - b * x - (P * (a * d - b * c)) * j) * c := by grind
theorem home_eq2 (a b c d x y P i j : Int) : (a * d - b * c) * (y - i * (P * b) - j * (P * d)) = (x * d - y * c - (P * (a * d - b * c)) * i) * b + (a * y - b * x - (P * (a * d - b * c)) * j) * d := by grind
theorem in_bound {D P a c h s t : Int} (hD : 1 ≤ D) (hP : 1 ≤ P) (ha : 0 ≤ a) (hc : 0 ≤ c) (hac : 1 ≤ a + c) (hs : 0 ≤ s ∧ s < P * D) (ht : 0 ≤ t ∧ t < P * D) (e : D * h = s * a + t * c) : 0 ≤ h ∧ h < P * a + P * c := by
  have h1 : 0 ≤ s * a := Int.mul_nonneg hs.1 ha
  have h2 : 0 ≤ t * c := Int.mul_nonneg ht.1 hc
  have h3 : s * a ≤ (P * D - 1) * a := Int.mul_le_mul_of_nonneg_right (by omega) ha
  have h4 : t * c ≤ (P * D - 1) * c := Int.mul_le_mul_of_nonneg_right (by omega) hc
  have e5 : (P * D - 1) * a + (P * D - 1) * c = D * (P * a + P * c) - (a + c) := by grind
  constructor
  · apply Classical.byContradiction
    intro hn
    have h6 : D * h ≤ D * (-1) := Int.mul_le_mul_of_nonneg_left (by omega) (by omega)
    omega
  · apply Classical.byContradiction
    intro hn
    have h6 : D * (P * a + P * c) ≤ D * h := Int.mul_le_mul_of_nonneg_left (by omega) (by omega)
    omega
theorem home_in {l : List (Nat × Nat)} {c P : Nat} (hP : 1 ≤ P) (hD : 1 ≤ lD l c) (x y : Int) : (0 ≤ hX l P c x y ∧ hX l P c x y < (P : Int) * (ra l c : Int) + (P : Int) * (ra l (c + 1) : Int)) ∧ 0 ≤ hY l P c x y ∧ hY l P c x y < (P : Int) * (rb l c : Int) + (P : Int) * (rb l (c + 1) : Int) := by
  have hPD : 0 < (P : Int) * lD l c := Int.mul_pos (by omega) (by omega)
  have s1 := Int.emod_nonneg (lS l c x y) (show (P : Int) * lD l c ≠ 0 by omega)
  have s2 := Int.emod_lt_of_pos (lS l c x y) hPD
  have t1 := Int.emod_nonneg (lT l c x y) (show (P : Int) * lD l c ≠ 0 by omega)
  have t2 := Int.emod_lt_of_pos (lT l c x y) hPD
  rw [Int.emod_def] at s1 s2 t1 t2
  have hne : 1 ≤ (ra l c : Int) + (ra l (c + 1) : Int) := by
    apply Classical.byContradiction
    intro hn
    have e1 : (ra l c : Int) = 0 := by omega
    have e2 : (ra l (c + 1) : Int) = 0 := by omega
    unfold lD at hD
    rw [e1, e2, Int.zero_mul, Int.mul_zero] at hD
    omega
  have hne2 : 1 ≤ (rb l c : Int) + (rb l (c + 1) : Int) := by
    apply Classical.byContradiction
    intro hn
    have e1 : (rb l c : Int) = 0 := by omega
    have e2 : (rb l (c + 1) : Int) = 0 := by omega
    unfold lD at hD
    rw [e1, e2, Int.zero_mul, Int.mul_zero] at hD
    omega
  have e1 : lD l c * hX l P c x y = (lS l c x y - (P : Int) * lD l c * (lS l c x y / ((P : Int) * lD l c))) * (ra l c : Int) + (lT l c x y - (P : Int) * lD l c * (lT l c x y / ((P : Int) * lD l c))) * (ra l (c + 1) : Int) := home_eq (ra l c) (rb l c) (ra l (c + 1)) (rb l (c + 1)) x y P (lI l P c x y) (lJ l P c x y)
  have e2 : lD l c * hY l P c x y = (lS l c x y - (P : Int) * lD l c * (lS l c x y / ((P : Int) * lD l c))) * (rb l c : Int) + (lT l c x y - (P : Int) * lD l c * (lT l c x y / ((P : Int) * lD l c))) * (rb l (c + 1) : Int) := home_eq2 (ra l c) (rb l c) (ra l (c + 1)) (rb l (c + 1)) x y P (lI l P c x y) (lJ l P c x y)
  exact ⟨in_bound hD (by omega) (by omega) (by omega) hne ⟨s1, s2⟩ ⟨t1, t2⟩ e1, in_bound hD (by omega) (by omega) (by omega) hne2 ⟨s1, s2⟩ ⟨t1, t2⟩ e2⟩
/-- on from a home: no farther than the table goes -/
theorem far_in {h : Int} {A C u q n k : Nat} (hn : u + q ≤ n) (hn4 : n ≤ 4) (hA : A ≤ 24) (hC : C ≤ 24) (h0 : 0 ≤ h ∧ h < (A : Int) + (C : Int)) (hk : min ((A + C + n * max A C : Nat) : Int) 143 ≤ (k : Int)) : 0 ≤ h + (u : Int) * (A : Int) + (q : Int) * (C : Int) ∧ h + (u : Int) * (A : Int) + (q : Int) * (C : Int) ≤ k ∧ h + (u : Int) * (A : Int) + (q : Int) * (C : Int) ≤ 143 := by
  have h1 : u * A ≤ u * max A C := Nat.mul_le_mul_left u (Nat.le_max_left A C)
  have h2 : q * C ≤ q * max A C := Nat.mul_le_mul_left q (Nat.le_max_right A C)
  have h3 : (u + q) * max A C ≤ n * max A C := Nat.mul_le_mul_right _ hn
  have h4 : n * max A C ≤ 4 * 24 := Nat.mul_le_mul hn4 (Nat.max_le.mpr ⟨hA, hC⟩)
  rw [Nat.add_mul] at h3
  have e1 : (u : Int) * (A : Int) = ((u * A : Nat) : Int) := by simp
  have e2 : (q : Int) * (C : Int) = ((q * C : Nat) : Int) := by simp
  rw [e1, e2]
  generalize u * A = uA at *
  generalize q * C = qC at *
  generalize u * max A C = uM at *
  generalize q * max A C = qM at *
  generalize n * max A C = nM at *
  omega
/-- the counts from which a chamber's formula at a point is told -/
def fmF (t : PT) (c : Nat) (x y : Int) (u q : Nat) : Int64 := Frz t (hX (raysA t) (perP t (pm t)) c x y + (u : Int) * ((perP t (pm t) : Int) * (ra (raysA t) c : Int)) + (q : Int) * ((perP t (pm t) : Int) * (ra (raysA t) (c + 1) : Int))) (hY (raysA t) (perP t (pm t)) c x y + (u : Int) * ((perP t (pm t) : Int) * (rb (raysA t) c : Int)) + (q : Int) * ((perP t (pm t) : Int) * (rb (raysA t) (c + 1) : Int)))
def fmT (t : PT) (c : Nat) (x y : Int) : Int64 := tdS (dD (fmF t c x y) (pm t - 2)) (lI (raysA t) (perP t (pm t)) c x y) (lJ (raysA t) (perP t (pm t)) c x y) (pm t - 2) (pm t - 2 + 1) 0 0
/-- formulas are there, and so is the chamber -/
def fmC (t : PT) (p : Int) : Prop := (2 ≤ (raysA t).length ∧ (perP t (pm t) : Int) ≤ 6) ∧ 0 ≤ p ∧ p < (((raysA t).length - 1 : Nat) : Int)
theorem fm_hv {t : PT} (h : okP t) {c : Nat} (hc : c + 1 < (raysA t).length) (hP : perP t (pm t) ≤ 6) (hF : ∀ k, k < (raysA t).length → ra (raysA t) k ≤ 4 ∧ rb (raysA t) k ≤ 4) {kx ky : Int} (hkn : knF I kx ky) (hT : tabF J kx ky (Fr t (pm t))) (hkx : min ((perP t (pm t) * ra (raysA t) c + perP t (pm t) * ra (raysA t) (c + 1) + (pm t - 2) * max (perP t (pm t) * ra (raysA t) c) (perP t (pm t) * ra (raysA t) (c + 1)) : Nat) : Int) 143 ≤ kx) (hky : min ((perP t (pm t) * rb (raysA t) c + perP t (pm t) * rb (raysA t) (c + 1) + (pm t - 2) * max (perP t (pm t) * rb (raysA t) c) (perP t (pm t) * rb (raysA t) (c + 1)) : Nat) : Int) 143 ≤ ky) (x y : Int) : ∀ u q : Nat, u + q ≤ pm t - 2 → rg (hX (raysA t) (perP t (pm t)) c x y + (u : Int) * ((perP t (pm t) : Int) * (ra (raysA t) c : Int)) + (q : Int) * ((perP t (pm t) : Int) * (ra (raysA t) (c + 1) : Int))) ∧ rg (hY (raysA t) (perP t (pm t)) c x y + (u : Int) * ((perP t (pm t) : Int) * (rb (raysA t) c : Int)) + (q : Int) * ((perP t (pm t) : Int) * (rb (raysA t) (c + 1) : Int))) ∧ (if 0 ≤ hX (raysA t) (perP t (pm t)) c x y + (u : Int) * ((perP t (pm t) : Int) * (ra (raysA t) c : Int)) + (q : Int) * ((perP t (pm t) : Int) * (ra (raysA t) (c + 1) : Int)) ∧ hX (raysA t) (perP t (pm t)) c x y + (u : Int) * ((perP t (pm t) : Int) * (ra (raysA t) c : Int)) + (q : Int) * ((perP t (pm t) : Int) * (ra (raysA t) (c + 1) : Int)) ≤ kx ∧ 0 ≤ hY (raysA t) (perP t (pm t)) c x y + (u : Int) * ((perP t (pm t) : Int) * (rb (raysA t) c : Int)) + (q : Int) * ((perP t (pm t) : Int) * (rb (raysA t) (c + 1) : Int)) ∧ hY (raysA t) (perP t (pm t)) c x y + (u : Int) * ((perP t (pm t) : Int) * (rb (raysA t) c : Int)) + (q : Int) * ((perP t (pm t) : Int) * (rb (raysA t) (c + 1) : Int)) ≤ ky then J 175 ((hX (raysA t) (perP t (pm t)) c x y + (u : Int) * ((perP t (pm t) : Int) * (ra (raysA t) c : Int)) + (q : Int) * ((perP t (pm t) : Int) * (ra (raysA t) (c + 1) : Int))).toNat * 144 + (hY (raysA t) (perP t (pm t)) c x y + (u : Int) * ((perP t (pm t) : Int) * (rb (raysA t) c : Int)) + (q : Int) * ((perP t (pm t) : Int) * (rb (raysA t) (c + 1) : Int))).toNat) else 0) = fmF t c x y u q := by
  intro u q huq
  have hp := perP_ok h (pm t) (Nat.le_refl _)
  have hm := h.1
  obtain ⟨g1, g2⟩ := home_in hp.1 (rays_D h hc) x y
  have f1 := hF c (by omega)
  have f2 := hF (c + 1) hc
  have b1 : perP t (pm t) * ra (raysA t) c ≤ 6 * 4 := Nat.mul_le_mul hP f1.1
  have b2 : perP t (pm t) * ra (raysA t) (c + 1) ≤ 6 * 4 := Nat.mul_le_mul hP f2.1
  have b3 : perP t (pm t) * rb (raysA t) c ≤ 6 * 4 := Nat.mul_le_mul hP f1.2
  have b4 : perP t (pm t) * rb (raysA t) (c + 1) ≤ 6 * 4 := Nat.mul_le_mul hP f2.2
  have n1 := hkn.2.2.1
  have n2 := hkn.2.2.2.2.1
  have e1 : (perP t (pm t) : Int) * (ra (raysA t) c : Int) = ((perP t (pm t) * ra (raysA t) c : Nat) : Int) := by simp
  have e2 : (perP t (pm t) : Int) * (ra (raysA t) (c + 1) : Int) = ((perP t (pm t) * ra (raysA t) (c + 1) : Nat) : Int) := by simp
  have e3 : (perP t (pm t) : Int) * (rb (raysA t) c : Int) = ((perP t (pm t) * rb (raysA t) c : Nat) : Int) := by simp
  have e4 : (perP t (pm t) : Int) * (rb (raysA t) (c + 1) : Int) = ((perP t (pm t) * rb (raysA t) (c + 1) : Nat) : Int) := by simp
  unfold fmF
  rw [e1, e2] at g1 ⊢
  rw [e3, e4] at g2 ⊢
  generalize hX (raysA t) (perP t (pm t)) c x y = X0 at *
  generalize hY (raysA t) (perP t (pm t)) c x y = Y0 at *
  generalize perP t (pm t) * ra (raysA t) c = A at *
  generalize perP t (pm t) * ra (raysA t) (c + 1) = C at *
  generalize perP t (pm t) * rb (raysA t) c = B at *
  generalize perP t (pm t) * rb (raysA t) (c + 1) = D at *
  have hk0 : 0 ≤ kx := by omega
  have hk1 : 0 ≤ ky := by omega
  obtain ⟨k1, rfl⟩ : ∃ k : Nat, kx = k := ⟨kx.toNat, by omega⟩
  obtain ⟨k2, rfl⟩ : ∃ k : Nat, ky = k := ⟨ky.toNat, by omega⟩
  have r1 := far_in (k := k1) huq (show pm t - 2 ≤ 4 by omega) b1 b2 g1 hkx
  have r2 := far_in (k := k2) huq (show pm t - 2 ≤ 4 by omega) b3 b4 g2 hky
  generalize X0 + (u : Int) * (A : Int) + (q : Int) * (C : Int) = X1 at *
  generalize Y0 + (u : Int) * (B : Int) + (q : Int) * (D : Int) = Y1 at *
  refine ⟨⟨by omega, by omega⟩, ⟨by omega, by omega⟩, ?_⟩
  unfold Frz
  rw [if_pos (by omega), if_pos (by omega)]
  exact hT _ _ (by omega) (by omega)
theorem atC_loc {σ : SG} {I' : Nat → Nat → Int32} {J' : Nat → Nat → Int64} (h : atC I J σ) (hF : freeOK I' J' σ.1) (hI : ∀ x, x ≠ 174 → x ≠ 180 → I' x = I x) (hJ : ∀ x, x ≠ 175 → x ≠ 181 → J' x = J x) : atC I' J' σ := by
  obtain ⟨h1, h2, ⟨v1, v2, v3⟩, ⟨n, h4⟩, h5⟩ := h
  exact ⟨h1.on (fun a h8 h9 => hI a (by omega) (by omega)) (hJ 5 (by omega) (by omega)), h2, ⟨v1.on (fun x g1 g2 => hI x (by omega) (by omega)), hF, v3.on (hI 176 (by omega) (by omega)) (hJ 177 (by omega) (by omega))⟩, ⟨n, h4.on (fun x h8 h9 => ⟨hI x (by omega) (by omega), hJ x (by omega) (by omega)⟩)⟩, h5.on (fun x hx => ⟨hI x (by omega) (by omega), hJ x (by omega) (by omega)⟩)⟩
/-- the least chamber from k on that a point is in -/
def chO (l : List (Nat × Nat)) (x y : Int) : Nat → Nat → Int
  | 0, _ => -3
  | n + 1, k => if 0 ≤ lS l k x y ∧ 0 ≤ lT l k x y then (k : Int) else chO l x y n (k + 1)
def chamberA (t : PT) (x y : Int) : Int := if -60 ≤ x ∧ x ≤ 60 ∧ -60 ≤ y ∧ y ≤ 60 then chO (raysA t) x y ((raysA t).length - 1) 0 else -1
set_option maxRecDepth 4000 in
theorem sp_X10_chamberOf {σ : SG} (hC : atC I J σ) {x y : Int} (hx : rg x) (hy : rg y) : am_S G mX10_chamberOf 4 0 0 [.ref 0, .int (iZ x), .int (iZ y)] (215, kK, kR, I, J) (am_qi (fun v w' => v = iZ (chamberA σ.1 x y) ∧ ∃ (I' : Nat → Nat → Int32) (J' : Nat → Nat → Int64), w' = (215, kK, kR, I', J') ∧ atC I' J' (σ) ∧ frC I J I' J')) := by
  have hm := hC.2.1.1
  have hF := hC.2.2.1.1.1
  have hper := hC.2.2.1.1.2.2.2
  have hp1 := perP_ok hC.2.1 (pm σ.1) (Nat.le_refl _)
  have hp2 := per_le hp1
  have f2 := hF.2.1
  have f3 := hF.2.2
  refine am_spec (plainFor_of_name (by decide +kernel)) (Nat.le_of_ble_eq_true rfl) (L := [some (.ref 0), some (.int (iZ x)), some (.int (iZ y)), none]) rfl (fun X C T => ?_)
  have pr : ∀ (k : Nat), k + 1 < (raysA σ.1).length → ∀ z : Int, -60 ≤ z → z ≤ 60 → (-240 ≤ z * (ra (raysA σ.1) k : Int) ∧ z * (ra (raysA σ.1) k : Int) ≤ 240) ∧ (-240 ≤ z * (rb (raysA σ.1) k : Int) ∧ z * (rb (raysA σ.1) k : Int) ≤ 240) ∧ (-240 ≤ z * (ra (raysA σ.1) (k + 1) : Int) ∧ z * (ra (raysA σ.1) (k + 1) : Int) ≤ 240) ∧ (-240 ≤ z * (rb (raysA σ.1) (k + 1) : Int) ∧ z * (rb (raysA σ.1) (k + 1) : Int) ≤ 240) := fun k hk z h1 h2 => ⟨prx (c := 60) ⟨h1, h2⟩ (f3 k (by omega)).2.2.1 (by decide), prx (c := 60) ⟨h1, h2⟩ (f3 k (by omega)).2.2.2 (by decide), prx (c := 60) ⟨h1, h2⟩ (f3 (k + 1) hk).2.2.1 (by decide), prx (c := 60) ⟨h1, h2⟩ (f3 (k + 1) hk).2.2.2 (by decide)⟩
  have rS : ∀ (k : Nat), k + 1 < (raysA σ.1).length → -60 ≤ x ∧ x ≤ 60 ∧ -60 ≤ y ∧ y ≤ 60 → rg (lS (raysA σ.1) k x y) ∧ rg (lT (raysA σ.1) k x y) := fun k hk h => by
    obtain ⟨p1, p2, p3, p4⟩ := pr k hk x h.1 h.2.1
    obtain ⟨q1, q2, q3, q4⟩ := pr k hk y h.2.2.1 h.2.2.2
    unfold lS lT
    rw [Int.mul_comm (ra (raysA σ.1) k : Int), Int.mul_comm (rb (raysA σ.1) k : Int)]
    exact ⟨⟨by omega, by omega⟩, ⟨by omega, by omega⟩⟩
  have lp : ∀ (fuel : Nat) (k : Nat), (k ≤ (raysA σ.1).length - 1) → (-60 ≤ x ∧ x ≤ 60 ∧ -60 ≤ y ∧ y ≤ 60) → (chO (raysA σ.1) x y ((raysA σ.1).length - 1 - k) k = chamberA σ.1 x y) → ((raysA σ.1).length - k) < fuel → am_A G mX10_chamberOf X (am_rm 4 0 0) 12 [some (.ref 0), some (.int (iZ x)), some (.int (iZ y)), some (.int (iZ (k : Int)))] [] (215, kK, kR, I, J) 0 0 := by
    intro fuel
    induction fuel with
    | zero => intro k hk hsp hq hf; exact absurd hf (Nat.not_lt_zero _)
    | succ fuel ih =>
      intro k hk hsp hq hf
      refine am_iload_n (q := 13) C dX10_chamberOf_12 rfl rfl ?_
      refine am_aload_n (q := 14) C dX10_chamberOf_13 rfl rfl ?_
      refine am_getR (q := 17) C fb_X10_45 dX10_chamberOf_14 rfl rfl kk_0 (show 0 < 215 by decide) kr_0_5 ?_
      refine am_callN (q := 20) (As := []) (rest := [.int (iZ (k : Int))]) C mb_X1_chambers im_X1_chambers se_X1_chambers mn_X10_213 cb_1 kk_169 (show 169 < 215 by decide) dX10_chamberOf_17 rfl (sp_X1_chambers hF) rfl rfl ⟨by decide, by decide⟩ ⟨Nat.le_refl _, Nat.le_refl _⟩ (Nat.le_of_ble_eq_true rfl) (am_rie ?_)
      refine am_icmpZ_ge (q := 23) (tgt := 57) C dX10_chamberOf_20 (by decide) rfl ⟨by omega, by omega⟩ ⟨by omega, by omega⟩ (fun c1 => ?_) (fun c1 => ?_)
      · refine am_bipush (q := 59) (v := iZ (-3)) C dX10_chamberOf_57 rfl rfl ?_
        refine am_iret C T dX10_chamberOf_59 rfl (Nat.le_refl _) (Nat.le_refl _) ⟨_, rfl, ?_⟩
        rw [show (raysA σ.1).length - 1 - k = 0 by omega] at hq
        have e1 : chamberA σ.1 x y = -3 := hq.symm
        rw [e1]
        exact ⟨rfl, _, _, rfl, hC, frC_refl⟩
      · refine am_aload_n (q := 24) C dX10_chamberOf_23 rfl rfl ?_
        refine am_getR (q := 27) C fb_X10_45 dX10_chamberOf_24 rfl rfl kk_0 (show 0 < 215 by decide) kr_0_5 ?_
        refine am_iload_n (q := 28) C dX10_chamberOf_27 rfl rfl ?_
        refine am_iload_n (q := 29) C dX10_chamberOf_28 rfl rfl ?_
        refine am_iload_n (q := 30) C dX10_chamberOf_29 rfl rfl ?_
        refine am_callN (q := 33) (As := [.int (iZ (k : Int)), .int (iZ x), .int (iZ y)]) (rest := []) C mb_X1_firstSpan im_X1_firstSpan se_X1_firstSpan mn_X10_216 cb_1 kk_169 (show 169 < 215 by decide) dX10_chamberOf_30 rfl (sp_X1_firstSpan (x := x) (y := y) (c := k) hF (by omega)) rfl rfl ⟨by decide, by decide⟩ ⟨Nat.le_refl _, Nat.le_refl _⟩ (Nat.le_of_ble_eq_true rfl) (am_rie ?_)
        refine am_intE (show _ = iZ (lS (raysA σ.1) k x y) from rfl) ?_
        refine am_ifZ_lt (q := 36) (tgt := 51) C dX10_chamberOf_33 (by decide) rfl (rS k (by omega) hsp).1 (fun c2 => ?_) (fun c2 => ?_)
        · refine am_iincZ (q := 54) (L' := [some (.ref 0), some (.int (iZ x)), some (.int (iZ y)), some (.int (iZ ((k + 1 : Nat) : Int)))]) C dX10_chamberOf_51 rfl rfl (by omega) (by decide) rfl rfl ?_
          refine am_goto (q := 12) C dX10_chamberOf_54 (by decide) ?_
          refine ih (k + 1) (by omega) hsp ?_ (by omega)
          rw [← hq, show (raysA σ.1).length - 1 - k = ((raysA σ.1).length - 1 - (k + 1)) + 1 by omega]
          exact (if_neg (by omega)).symm
        · refine am_aload_n (q := 37) C dX10_chamberOf_36 rfl rfl ?_
          refine am_getR (q := 40) C fb_X10_45 dX10_chamberOf_37 rfl rfl kk_0 (show 0 < 215 by decide) kr_0_5 ?_
          refine am_iload_n (q := 41) C dX10_chamberOf_40 rfl rfl ?_
          refine am_iload_n (q := 42) C dX10_chamberOf_41 rfl rfl ?_
          refine am_iload_n (q := 43) C dX10_chamberOf_42 rfl rfl ?_
          refine am_callN (q := 46) (As := [.int (iZ (k : Int)), .int (iZ x), .int (iZ y)]) (rest := []) C mb_X1_secondSpan im_X1_secondSpan se_X1_secondSpan mn_X10_220 cb_1 kk_169 (show 169 < 215 by decide) dX10_chamberOf_43 rfl (sp_X1_secondSpan (x := x) (y := y) (c := k) hF (by omega)) rfl rfl ⟨by decide, by decide⟩ ⟨Nat.le_refl _, Nat.le_refl _⟩ (Nat.le_of_ble_eq_true rfl) (am_rie ?_)
          refine am_intE (show _ = iZ (lT (raysA σ.1) k x y) from rfl) ?_
          refine am_ifZ_lt (q := 49) (tgt := 51) C dX10_chamberOf_46 (by decide) rfl (rS k (by omega) hsp).2 (fun c3 => ?_) (fun c3 => ?_)
          · refine am_iincZ (q := 54) (L' := [some (.ref 0), some (.int (iZ x)), some (.int (iZ y)), some (.int (iZ ((k + 1 : Nat) : Int)))]) C dX10_chamberOf_51 rfl rfl (by omega) (by decide) rfl rfl ?_
            refine am_goto (q := 12) C dX10_chamberOf_54 (by decide) ?_
            refine ih (k + 1) (by omega) hsp ?_ (by omega)
            rw [← hq, show (raysA σ.1).length - 1 - k = ((raysA σ.1).length - 1 - (k + 1)) + 1 by omega]
            exact (if_neg (by omega)).symm
          · refine am_iload_n (q := 50) C dX10_chamberOf_49 rfl rfl ?_
            refine am_iret C T dX10_chamberOf_50 rfl (Nat.le_refl _) (Nat.le_refl _) ⟨_, rfl, ?_⟩
            have e1 : chamberA σ.1 x y = (k : Int) := by
              rw [← hq, show (raysA σ.1).length - 1 - k = ((raysA σ.1).length - 1 - (k + 1)) + 1 by omega]
              exact if_pos (by omega)
            rw [e1]
            exact ⟨rfl, _, _, rfl, hC, frC_refl⟩
  refine am_iload_n (q := 1) C dX10_chamberOf_0 rfl rfl ?_
  refine am_iload_n (q := 2) C dX10_chamberOf_1 rfl rfl ?_
  refine am_callS (q := 5) (As := [.int (iZ x), .int (iZ y)]) (rest := []) C mb_X10_isSpot st_X10_isSpot ml_X10_210 dX10_chamberOf_2 rfl (sp_X10_isSpot hx hy) rfl rfl ⟨by decide, by decide⟩ ⟨Nat.le_refl _, Nat.le_refl _⟩ (Nat.le_of_ble_eq_true rfl) (am_rie ?_)
  refine am_ifB_ne (q := 8) (tgt := 10) C dX10_chamberOf_5 (by decide) rfl (fun c4 => ?_) (fun c4 => ?_)
  · refine am_iconst (q := 11) (v := iZ 0) C dX10_chamberOf_10 rfl rfl ?_
    refine am_istore_n (q := 12) (L' := [some (.ref 0), some (.int (iZ x)), some (.int (iZ y)), some (.int (iZ 0))]) C dX10_chamberOf_11 rfl (by decide) rfl rfl ?_
    exact lp ((raysA σ.1).length + 1) 0 (by omega) (by omega) (if_pos (by omega)).symm (by omega)
  · refine am_iconst (q := 9) (v := iZ (-1)) C dX10_chamberOf_8 rfl rfl ?_
    refine am_iret C T dX10_chamberOf_9 rfl (Nat.le_refl _) (Nat.le_refl _) ⟨_, rfl, ?_⟩
    have e1 : chamberA σ.1 x y = -1 := if_neg (by omega)
    rw [e1]
    exact ⟨rfl, _, _, rfl, hC, frC_refl⟩
def homeA (t : PT) (p x y k : Int) : Int := if ((2 ≤ (raysA t).length ∧ (perP t (pm t) : Int) ≤ 6) ∧ 0 ≤ p ∧ p < (((raysA t).length - 1 : Nat) : Int)) ∧ -60 ≤ x ∧ x ≤ 60 ∧ -60 ≤ y ∧ y ≤ 60 then (if k = 0 then hX (raysA t) (perP t (pm t)) p.toNat x y else if k = 1 then hY (raysA t) (perP t (pm t)) p.toNat x y else if k = 2 then 1000 + lI (raysA t) (perP t (pm t)) p.toNat x y else if k = 3 then 1000 + lJ (raysA t) (perP t (pm t)) p.toNat x y else -1) else -1
theorem frC_loc {I' : Nat → Nat → Int32} {J' : Nat → Nat → Int64} (hI : ∀ x, x ≠ 174 → x ≠ 180 → I' x = I x) (hJ : ∀ x, x ≠ 175 → x ≠ 181 → J' x = J x) : frC I J I' J' := fun x hx => ⟨hI x (by omega) (by omega), hJ x (by omega) (by omega)⟩
set_option maxRecDepth 4000 in
theorem sp_X10_home {σ : SG} (hC : atC I J σ) {p k : Int} (hp : rg p) (hk : rg k) {x y : Int} (hx : rg x) (hy : rg y) : am_S G mX10_home 5 0 0 [.ref 0, .int (iZ p), .int (iZ x), .int (iZ y), .int (iZ k)] (215, kK, kR, I, J) (am_qi (fun v w' => v = iZ (homeA σ.1 p x y k) ∧ ∃ (I' : Nat → Nat → Int32) (J' : Nat → Nat → Int64), w' = (215, kK, kR, I', J') ∧ atC I' J' (σ) ∧ frC I J I' J')) := by
  have hm := hC.2.1.1
  have hF := hC.2.2.1.1.1
  have hper := hC.2.2.1.1.2.2.2
  have hp1 := perP_ok hC.2.1 (pm σ.1) (Nat.le_refl _)
  have hp2 := per_le hp1
  have f2 := hF.2.1
  have f3 := hF.2.2
  refine am_spec (plainFor_of_name (by decide +kernel)) (Nat.le_of_ble_eq_true rfl) (L := [some (.ref 0), some (.int (iZ p)), some (.int (iZ x)), some (.int (iZ y)), some (.int (iZ k))]) rfl (fun X C T => ?_)
  refine am_aload_n (q := 1) C dX10_home_0 rfl rfl ?_
  refine am_iload_n (q := 2) C dX10_home_1 rfl rfl ?_
  refine am_callV (q := 5) (As := [.int (iZ p)]) (rest := []) C mb_X10_hasFormula im_X10_hasFormula se_X10_hasFormula ml_X10_223 cb_10 kk_0 (show 0 < 215 by decide) dX10_home_2 rfl (sp_X10_hasFormula hC hp) rfl rfl ⟨by decide, by decide⟩ ⟨Nat.le_refl _, Nat.le_refl _⟩ (Nat.le_of_ble_eq_true rfl) (am_rie ?_)
  refine am_ifB_eq (q := 8) (tgt := 16) C dX10_home_5 (by decide) rfl (fun c1 => ?_) (fun c1 => ?_)
  · refine am_iconst (q := 17) (v := iZ (-1)) C dX10_home_16 rfl rfl ?_
    refine am_iret C T dX10_home_17 rfl (Nat.le_refl _) (Nat.le_refl _) ⟨_, rfl, ?_⟩
    have e1 : homeA σ.1 p x y k = -1 := if_neg (by omega)
    rw [e1]
    exact ⟨rfl, _, _, rfl, hC, frC_refl⟩
  · refine am_iload_n (q := 9) C dX10_home_8 rfl rfl ?_
    refine am_iload_n (q := 10) C dX10_home_9 rfl rfl ?_
    refine am_callS (q := 13) (As := [.int (iZ x), .int (iZ y)]) (rest := []) C mb_X10_isSpot st_X10_isSpot ml_X10_210 dX10_home_10 rfl (sp_X10_isSpot hx hy) rfl rfl ⟨by decide, by decide⟩ ⟨Nat.le_refl _, Nat.le_refl _⟩ (Nat.le_of_ble_eq_true rfl) (am_rie ?_)
    refine am_ifB_ne (q := 16) (tgt := 18) C dX10_home_13 (by decide) rfl (fun c2 => ?_) (fun c2 => ?_)
    · refine am_aload_n (q := 19) C dX10_home_18 rfl rfl ?_
      refine am_getR (q := 22) C fb_X10_73 dX10_home_19 rfl rfl kk_0 (show 0 < 215 by decide) kr_0_9 ?_
      refine am_aload_n (q := 23) C dX10_home_22 rfl rfl ?_
      refine am_getR (q := 26) C fb_X10_45 dX10_home_23 rfl rfl kk_0 (show 0 < 215 by decide) kr_0_5 ?_
      refine am_iload_n (q := 27) C dX10_home_26 rfl rfl ?_
      refine am_iload_n (q := 28) C dX10_home_27 rfl rfl ?_
      refine am_iload_n (q := 29) C dX10_home_28 rfl rfl ?_
      obtain ⟨q, rfl⟩ : ∃ q : Nat, p = q := ⟨p.toNat, by omega⟩
      refine am_callN (q := 32) (As := [.ref 169, .int (iZ (q : Int)), .int (iZ x), .int (iZ y)]) (rest := []) C mb_X3_locate im_X3_locate se_X3_locate mn_X10_226 cb_3 kk_180 (show 180 < 215 by decide) dX10_home_29 rfl (sp_X3_locate (c := q) (P := perP σ.1 (pm σ.1)) (x := x) (y := y) hF (by omega) ⟨hp1.1, by omega⟩ hper (rays_D hC.2.1 (by omega)) (by omega) (by omega)) rfl rfl ⟨by decide, by decide⟩ ⟨Nat.le_refl _, Nat.le_refl _⟩ (Nat.le_of_ble_eq_true rfl) (am_rv (fun w' hw' => ?_))
      obtain ⟨I1, rfl, hL1, hI1⟩ := hw'
      refine am_iload (q := 34) C dX10_home_32 rfl rfl ?_
      rcases (show (k < 0 ∨ 3 < k) ∨ k = 0 ∨ k = 1 ∨ k = 2 ∨ k = 3 by omega) with c3 | c3 | c3 | c3 | c3
      · refine am_tableOut (q := 104) C dX10_home_34 (by rw [iZ_toInt hk]; omega) (by decide) ?_
        refine am_iconst (q := 105) (v := iZ (-1)) C dX10_home_104 rfl rfl ?_
        refine am_iret C T dX10_home_105 rfl (Nat.le_refl _) (Nat.le_refl _) ⟨_, rfl, ?_⟩
        have e1 : homeA σ.1 (q : Int) x y k = (-1) := by
          unfold homeA
          rw [if_pos (by omega), Int.toNat_natCast]
          rw [if_neg (by omega), if_neg (by omega), if_neg (by omega), if_neg (by omega)]
        rw [e1]
        exact ⟨rfl, _, _, rfl, atC_loc hC (hC.2.2.1.2.1.on (hI1 174 (by decide)) rfl) (fun x h1 h2 => hI1 x h2) (fun x _ _ => rfl), frC_loc (fun x h1 h2 => hI1 x h2) (fun x _ _ => rfl)⟩
      · refine am_tableIn (q := 64) (off := 30) C dX10_home_34 (by rw [iZ_toInt hk]; omega) (by rw [iZ_toInt hk]; omega) (by rw [iZ_toInt hk, c3]; rfl) (by decide) ?_
        refine am_aload_n (q := 65) C dX10_home_64 rfl rfl ?_
        refine am_getR (q := 68) C fb_X10_73 dX10_home_65 rfl rfl kk_0 (show 0 < 215 by decide) kr_0_9 ?_
        refine am_getIe (q := 71) (v := (iZ (hX (raysA σ.1) (perP σ.1 (pm σ.1)) q x y))) C fb_X10_230 dX10_home_68 rfl rfl kk_180 (show 180 < 215 by decide) hL1.2.2.2.2.2.2.1 ?_
        refine am_iret C T dX10_home_71 rfl (Nat.le_refl _) (Nat.le_refl _) ⟨_, rfl, ?_⟩
        have e1 : homeA σ.1 (q : Int) x y k = hX (raysA σ.1) (perP σ.1 (pm σ.1)) q x y := by
          unfold homeA
          rw [if_pos (by omega), Int.toNat_natCast]
          rw [if_pos (by omega)]
        rw [e1]
        exact ⟨rfl, _, _, rfl, atC_loc hC (hC.2.2.1.2.1.on (hI1 174 (by decide)) rfl) (fun x h1 h2 => hI1 x h2) (fun x _ _ => rfl), frC_loc (fun x h1 h2 => hI1 x h2) (fun x _ _ => rfl)⟩
      · refine am_tableIn (q := 72) (off := 38) C dX10_home_34 (by rw [iZ_toInt hk]; omega) (by rw [iZ_toInt hk]; omega) (by rw [iZ_toInt hk, c3]; rfl) (by decide) ?_
        refine am_aload_n (q := 73) C dX10_home_72 rfl rfl ?_
        refine am_getR (q := 76) C fb_X10_73 dX10_home_73 rfl rfl kk_0 (show 0 < 215 by decide) kr_0_9 ?_
        refine am_getIe (q := 79) (v := (iZ (hY (raysA σ.1) (perP σ.1 (pm σ.1)) q x y))) C fb_X10_233 dX10_home_76 rfl rfl kk_180 (show 180 < 215 by decide) hL1.2.2.2.2.2.2.2 ?_
        refine am_iret C T dX10_home_79 rfl (Nat.le_refl _) (Nat.le_refl _) ⟨_, rfl, ?_⟩
        have e1 : homeA σ.1 (q : Int) x y k = hY (raysA σ.1) (perP σ.1 (pm σ.1)) q x y := by
          unfold homeA
          rw [if_pos (by omega), Int.toNat_natCast]
          rw [if_neg (by omega), if_pos (by omega)]
        rw [e1]
        exact ⟨rfl, _, _, rfl, atC_loc hC (hC.2.2.1.2.1.on (hI1 174 (by decide)) rfl) (fun x h1 h2 => hI1 x h2) (fun x _ _ => rfl), frC_loc (fun x h1 h2 => hI1 x h2) (fun x _ _ => rfl)⟩
      · refine am_tableIn (q := 80) (off := 46) C dX10_home_34 (by rw [iZ_toInt hk]; omega) (by rw [iZ_toInt hk]; omega) (by rw [iZ_toInt hk, c3]; rfl) (by decide) ?_
        refine am_sipush (q := 83) (v := iZ 1000) C dX10_home_80 rfl rfl ?_
        refine am_aload_n (q := 84) C dX10_home_83 rfl rfl ?_
        refine am_getR (q := 87) C fb_X10_73 dX10_home_84 rfl rfl kk_0 (show 0 < 215 by decide) kr_0_9 ?_
        refine am_getIe (q := 90) (v := (iZ (lI (raysA σ.1) (perP σ.1 (pm σ.1)) q x y))) C fb_X10_236 dX10_home_87 rfl rfl kk_180 (show 180 < 215 by decide) hL1.2.2.2.2.1 ?_
        refine am_iaddZ (q := 91) C dX10_home_90 rfl ?_
        refine am_iret C T dX10_home_91 rfl (Nat.le_refl _) (Nat.le_refl _) ⟨_, rfl, ?_⟩
        have e1 : homeA σ.1 (q : Int) x y k = 1000 + (lI (raysA σ.1) (perP σ.1 (pm σ.1)) q x y) := by
          unfold homeA
          rw [if_pos (by omega), Int.toNat_natCast]
          rw [if_neg (by omega), if_neg (by omega), if_pos (by omega)]
        rw [e1]
        exact ⟨rfl, _, _, rfl, atC_loc hC (hC.2.2.1.2.1.on (hI1 174 (by decide)) rfl) (fun x h1 h2 => hI1 x h2) (fun x _ _ => rfl), frC_loc (fun x h1 h2 => hI1 x h2) (fun x _ _ => rfl)⟩
      · refine am_tableIn (q := 92) (off := 58) C dX10_home_34 (by rw [iZ_toInt hk]; omega) (by rw [iZ_toInt hk]; omega) (by rw [iZ_toInt hk, c3]; rfl) (by decide) ?_
        refine am_sipush (q := 95) (v := iZ 1000) C dX10_home_92 rfl rfl ?_
        refine am_aload_n (q := 96) C dX10_home_95 rfl rfl ?_
        refine am_getR (q := 99) C fb_X10_73 dX10_home_96 rfl rfl kk_0 (show 0 < 215 by decide) kr_0_9 ?_
        refine am_getIe (q := 102) (v := (iZ (lJ (raysA σ.1) (perP σ.1 (pm σ.1)) q x y))) C fb_X10_239 dX10_home_99 rfl rfl kk_180 (show 180 < 215 by decide) hL1.2.2.2.2.2.1 ?_
        refine am_iaddZ (q := 103) C dX10_home_102 rfl ?_
        refine am_iret C T dX10_home_103 rfl (Nat.le_refl _) (Nat.le_refl _) ⟨_, rfl, ?_⟩
        have e1 : homeA σ.1 (q : Int) x y k = 1000 + (lJ (raysA σ.1) (perP σ.1 (pm σ.1)) q x y) := by
          unfold homeA
          rw [if_pos (by omega), Int.toNat_natCast]
          rw [if_neg (by omega), if_neg (by omega), if_neg (by omega), if_pos (by omega)]
        rw [e1]
        exact ⟨rfl, _, _, rfl, atC_loc hC (hC.2.2.1.2.1.on (hI1 174 (by decide)) rfl) (fun x h1 h2 => hI1 x h2) (fun x _ _ => rfl), frC_loc (fun x h1 h2 => hI1 x h2) (fun x _ _ => rfl)⟩
    · refine am_iconst (q := 17) (v := iZ (-1)) C dX10_home_16 rfl rfl ?_
      refine am_iret C T dX10_home_17 rfl (Nat.le_refl _) (Nat.le_refl _) ⟨_, rfl, ?_⟩
      have e1 : homeA σ.1 p x y k = -1 := if_neg (by omega)
      rw [e1]
      exact ⟨rfl, _, _, rfl, hC, frC_refl⟩
/-- located, and the table reaches all that is needed -/
def rdyF (I : Nat → Nat → Int32) (J : Nat → Nat → Int64) (t : PT) (c : Nat) (x y : Int) : Prop := atLo I (raysA t) (perP t (pm t)) c x y ∧ ∃ kx ky : Int, knF I kx ky ∧ tabF J kx ky (Fr t (pm t)) ∧ min ((perP t (pm t) * ra (raysA t) c + perP t (pm t) * ra (raysA t) (c + 1) + (pm t - 2) * max (perP t (pm t) * ra (raysA t) c) (perP t (pm t) * ra (raysA t) (c + 1)) : Nat) : Int) 143 ≤ kx ∧ min ((perP t (pm t) * rb (raysA t) c + perP t (pm t) * rb (raysA t) (c + 1) + (pm t - 2) * max (perP t (pm t) * rb (raysA t) c) (perP t (pm t) * rb (raysA t) (c + 1)) : Nat) : Int) 143 ≤ ky
theorem rays_2 {t : PT} (h : 2 ≤ (raysA t).length) : 2 ≤ pm t := Nat.le_trans h (raysP_len t (pm t))
theorem far_ok {P a c n : Nat} (hP : P ≤ 6) (h1 : a ≤ 4) (h2 : c ≤ 4) (hn : n ≤ 4) : 0 ≤ ((P * a + P * c + n * max (P * a) (P * c) : Nat) : Int) ∧ ((P * a + P * c + n * max (P * a) (P * c) : Nat) : Int) ≤ 1000 := by
  have b1 : P * a ≤ 6 * 4 := Nat.mul_le_mul hP h1
  have b2 : P * c ≤ 6 * 4 := Nat.mul_le_mul hP h2
  have b3 : n * max (P * a) (P * c) ≤ 4 * 24 := Nat.mul_le_mul hn (Nat.max_le.mpr ⟨b1, b2⟩)
  generalize n * max (P * a) (P * c) = z at *
  generalize P * a = u at *
  generalize P * c = v at *
  omega
set_option maxRecDepth 4000 in
theorem sp_X10_readyFormula {σ : SG} (hC : atC I J σ) {q : Nat} (hq : q + 1 < (raysA σ.1).length) (hP6 : perP σ.1 (pm σ.1) ≤ 6) {x y : Int} (hx : -60 ≤ x ∧ x ≤ 60) (hy : -60 ≤ y ∧ y ≤ 60) : am_S G mX10_readyFormula 4 0 0 [.ref 0, .int (iZ (q : Int)), .int (iZ x), .int (iZ y)] (215, kK, kR, I, J) (am_qv (fun w' => ∃ (I' : Nat → Nat → Int32) (J' : Nat → Nat → Int64), w' = (215, kK, kR, I', J') ∧ rdyF I' J' σ.1 q x y ∧ (∀ x, x ≠ 174 → x ≠ 180 → I' x = I x) ∧ ∀ x, x ≠ 175 → J' x = J x)) := by
  have hm := hC.2.1.1
  have hF := hC.2.2.1.1.1
  have hper := hC.2.2.1.1.2.2.2
  have hp1 := perP_ok hC.2.1 (pm σ.1) (Nat.le_refl _)
  have hp2 := per_le hp1
  have f2 := hF.2.1
  have f3 := hF.2.2
  have hm2 := rays_2 (t := σ.1) (by omega)
  refine am_spec (plainFor_of_name (by decide +kernel)) (Nat.le_of_ble_eq_true rfl) (L := [some (.ref 0), some (.int (iZ (q : Int))), some (.int (iZ x)), some (.int (iZ y)), none]) rfl (fun X C T => ?_)
  refine am_aload_n (q := 1) C dX10_readyFormula_0 rfl rfl ?_
  refine am_getR (q := 4) C fb_X10_73 dX10_readyFormula_1 rfl rfl kk_0 (show 0 < 215 by decide) kr_0_9 ?_
  refine am_aload_n (q := 5) C dX10_readyFormula_4 rfl rfl ?_
  refine am_getR (q := 8) C fb_X10_45 dX10_readyFormula_5 rfl rfl kk_0 (show 0 < 215 by decide) kr_0_5 ?_
  refine am_iload_n (q := 9) C dX10_readyFormula_8 rfl rfl ?_
  refine am_iload_n (q := 10) C dX10_readyFormula_9 rfl rfl ?_
  refine am_iload_n (q := 11) C dX10_readyFormula_10 rfl rfl ?_
  refine am_callN (q := 14) (As := [.ref 169, .int (iZ (q : Int)), .int (iZ x), .int (iZ y)]) (rest := []) C mb_X3_locate im_X3_locate se_X3_locate mn_X10_226 cb_3 kk_180 (show 180 < 215 by decide) dX10_readyFormula_11 rfl (sp_X3_locate (c := q) (P := perP σ.1 (pm σ.1)) (x := x) (y := y) hF hq ⟨hp1.1, hP6⟩ hper (rays_D hC.2.1 hq) hx hy) rfl rfl ⟨by decide, by decide⟩ ⟨Nat.le_refl _, Nat.le_refl _⟩ (Nat.le_of_ble_eq_true rfl) (am_rv (fun w' hw' => ?_))
  obtain ⟨I1, rfl, hL1, hI1⟩ := hw'
  have hC1 : atC I1 J σ := atC_loc hC (hC.2.2.1.2.1.on (hI1 174 (by decide)) rfl) (fun x h1 h2 => hI1 x h2) (fun x _ _ => rfl)
  refine am_aload_n (q := 15) C dX10_readyFormula_14 rfl rfl ?_
  refine am_getR (q := 18) C fb_X10_14 dX10_readyFormula_15 rfl rfl kk_0 (show 0 < 215 by decide) kr_0_0 ?_
  refine am_getIe (q := 21) (v := (iZ (pm σ.1 : Int))) C fb_X10_103 dX10_readyFormula_18 rfl rfl kk_1 (show 1 < 215 by decide) hC1.1.1 ?_
  refine am_iconst (q := 22) (v := iZ 2) C dX10_readyFormula_21 rfl rfl ?_
  refine am_isubZ (q := 23) C dX10_readyFormula_22 rfl ?_
  refine am_intE (y := (iZ ((pm σ.1 - 2 : Nat) : Int))) (congrArg iZ (by omega)) ?_
  refine am_istore (q := 25) (L' := [some (.ref 0), some (.int (iZ (q : Int))), some (.int (iZ x)), some (.int (iZ y)), some (.int (iZ ((pm σ.1 - 2 : Nat) : Int)))]) C dX10_readyFormula_23 rfl (by decide) rfl rfl ?_
  refine am_aload_n (q := 26) C dX10_readyFormula_25 rfl rfl ?_
  refine am_getR (q := 29) C fb_X10_52 dX10_readyFormula_26 rfl rfl kk_0 (show 0 < 215 by decide) kr_0_6 ?_
  refine am_aload_n (q := 30) C dX10_readyFormula_29 rfl rfl ?_
  refine am_getR (q := 33) C fb_X10_73 dX10_readyFormula_30 rfl rfl kk_0 (show 0 < 215 by decide) kr_0_9 ?_
  refine am_iload (q := 35) C dX10_readyFormula_33 rfl rfl ?_
  refine am_callN (q := 38) (As := [.int (iZ ((pm σ.1 - 2 : Nat) : Int))]) (rest := [.ref 174]) C mb_X3_farX im_X3_farX se_X3_farX mn_X10_326 cb_3 kk_180 (show 180 < 215 by decide) dX10_readyFormula_35 rfl (sp_X3_farX hL1 hP6 (f3 q (by omega)).2.2.1 (f3 (q + 1) hq).2.2.1 (n := pm σ.1 - 2) (by omega)) rfl rfl ⟨by decide, by decide⟩ ⟨Nat.le_refl _, Nat.le_refl _⟩ (Nat.le_of_ble_eq_true rfl) (am_rie ?_)
  refine am_aload_n (q := 39) C dX10_readyFormula_38 rfl rfl ?_
  refine am_getR (q := 42) C fb_X10_73 dX10_readyFormula_39 rfl rfl kk_0 (show 0 < 215 by decide) kr_0_9 ?_
  refine am_iload (q := 44) C dX10_readyFormula_42 rfl rfl ?_
  refine am_callN (q := 47) (As := [.int (iZ ((pm σ.1 - 2 : Nat) : Int))]) (rest := [.int (iZ (((perP σ.1 (pm σ.1) * ra (raysA σ.1) q + perP σ.1 (pm σ.1) * ra (raysA σ.1) (q + 1) + (pm σ.1 - 2) * max (perP σ.1 (pm σ.1) * ra (raysA σ.1) q) (perP σ.1 (pm σ.1) * ra (raysA σ.1) (q + 1)) : Nat)) : Int)), .ref 174]) C mb_X3_farY im_X3_farY se_X3_farY mn_X10_329 cb_3 kk_180 (show 180 < 215 by decide) dX10_readyFormula_44 rfl (sp_X3_farY hL1 hP6 (f3 q (by omega)).2.2.2 (f3 (q + 1) hq).2.2.2 (n := pm σ.1 - 2) (by omega)) rfl rfl ⟨by decide, by decide⟩ ⟨Nat.le_refl _, Nat.le_refl _⟩ (Nat.le_of_ble_eq_true rfl) (am_rie ?_)
  refine am_aload_n (q := 48) C dX10_readyFormula_47 rfl rfl ?_
  refine am_getR (q := 51) C fb_X10_14 dX10_readyFormula_48 rfl rfl kk_0 (show 0 < 215 by decide) kr_0_0 ?_
  refine am_callN (q := 54) (As := [.int (iZ (((perP σ.1 (pm σ.1) * ra (raysA σ.1) q + perP σ.1 (pm σ.1) * ra (raysA σ.1) (q + 1) + (pm σ.1 - 2) * max (perP σ.1 (pm σ.1) * ra (raysA σ.1) q) (perP σ.1 (pm σ.1) * ra (raysA σ.1) (q + 1)) : Nat)) : Int)), .int (iZ (((perP σ.1 (pm σ.1) * rb (raysA σ.1) q + perP σ.1 (pm σ.1) * rb (raysA σ.1) (q + 1) + (pm σ.1 - 2) * max (perP σ.1 (pm σ.1) * rb (raysA σ.1) q) (perP σ.1 (pm σ.1) * rb (raysA σ.1) (q + 1)) : Nat)) : Int)), .ref 1]) (rest := []) C mb_X4_reach im_X4_reach se_X4_reach mn_X10_178 cb_4 kk_174 (show 174 < 215 by decide) dX10_readyFormula_51 rfl (sp_X4_reach hC1.1 hC1.2.1 hC1.2.2.1.2.1 (x := (((perP σ.1 (pm σ.1) * ra (raysA σ.1) q + perP σ.1 (pm σ.1) * ra (raysA σ.1) (q + 1) + (pm σ.1 - 2) * max (perP σ.1 (pm σ.1) * ra (raysA σ.1) q) (perP σ.1 (pm σ.1) * ra (raysA σ.1) (q + 1)) : Nat)) : Int)) (y := (((perP σ.1 (pm σ.1) * rb (raysA σ.1) q + perP σ.1 (pm σ.1) * rb (raysA σ.1) (q + 1) + (pm σ.1 - 2) * max (perP σ.1 (pm σ.1) * rb (raysA σ.1) q) (perP σ.1 (pm σ.1) * rb (raysA σ.1) (q + 1)) : Nat)) : Int)) (far_ok hP6 (f3 q (by omega)).2.2.1 (f3 (q + 1) hq).2.2.1 (by omega)) (far_ok hP6 (f3 q (by omega)).2.2.2 (f3 (q + 1) hq).2.2.2 (by omega))) rfl rfl ⟨by decide, by decide⟩ ⟨Nat.le_refl _, Nat.le_refl _⟩ (Nat.le_of_ble_eq_true rfl) (am_rv (fun w' hw' => ?_))
  obtain ⟨I2, J2, rfl, ⟨kx, ky, hkn, hT2, hkx, hky⟩, hI2, hJ2⟩ := hw'
  refine am_vret C T dX10_readyFormula_54 rfl (Nat.le_refl _) (Nat.le_refl _) ⟨rfl, ?_⟩
  exact ⟨_, _, rfl, ⟨hL1.on (hI2 180 (by decide)), kx, ky, hkn, hT2, hkx, hky⟩, fun x h1 h2 => (hI2 x h1).trans (hI1 x h2), hJ2⟩
theorem rdy_C {σ : SG} {I1 : Nat → Nat → Int32} {J1 : Nat → Nat → Int64} {q : Nat} {x y : Int} (h : atC I J σ) (hr : rdyF I1 J1 σ.1 q x y) (hI : ∀ x, x ≠ 174 → x ≠ 180 → I1 x = I x) (hJ : ∀ x, x ≠ 175 → J1 x = J x) : atC I1 J1 σ := by
  obtain ⟨h1, kx, ky, h2, h3, h4, h5⟩ := hr
  exact atC_loc h ⟨kx, ky, h2, h3⟩ hI (fun x g1 g2 => hJ x g1)
theorem lIJ_rg {l : List (Nat × Nat)} {P c : Nat} (hP : 1 ≤ P) (hD : 1 ≤ lD l c) (h1 : ra l c ≤ 4 ∧ rb l c ≤ 4) (h2 : ra l (c + 1) ≤ 4 ∧ rb l (c + 1) ≤ 4) {x y : Int} (hx : -60 ≤ x ∧ x ≤ 60) (hy : -60 ≤ y ∧ y ≤ 60) : (-10000 ≤ lI l P c x y ∧ lI l P c x y ≤ 10000) ∧ (-10000 ≤ lJ l P c x y ∧ lJ l P c x y ≤ 10000) := by
  have s1 : -(4 * 60) ≤ x * (rb l (c + 1) : Int) ∧ x * (rb l (c + 1) : Int) ≤ 4 * 60 := prx (c := 60) hx h2.2 (by decide)
  have s2 : -(4 * 60) ≤ y * (ra l (c + 1) : Int) ∧ y * (ra l (c + 1) : Int) ≤ 4 * 60 := prx (c := 60) hy h2.1 (by decide)
  have s3 : -(4 * 60) ≤ y * (ra l c : Int) ∧ y * (ra l c : Int) ≤ 4 * 60 := prx (c := 60) hy h1.1 (by decide)
  have s4 : -(4 * 60) ≤ x * (rb l c : Int) ∧ x * (rb l c : Int) ≤ 4 * 60 := prx (c := 60) hx h1.2 (by decide)
  have hPD : 1 ≤ (P : Int) * lD l c := Int.mul_pos (by omega) (by omega)
  have key : ∀ S d : Int, 1 ≤ d → -480 ≤ S → S ≤ 480 → -10000 ≤ S / d ∧ S / d ≤ 10000 := by
    intro S d hd g1 g2
    have e1 := Int.mul_ediv_add_emod S d
    have e2 := Int.emod_nonneg S (show d ≠ 0 by omega)
    have e3 := Int.emod_lt_of_pos S (show 0 < d by omega)
    constructor
    · apply Classical.byContradiction
      intro hn
      have h6 : d * (S / d) ≤ d * (-481) := Int.mul_le_mul_of_nonneg_left (by omega) (by omega)
      have h7 : d * (-481) = -480 * d - d := by grind
      have h8 : 1 * 1 ≤ d := by omega
      omega
    · apply Classical.byContradiction
      intro hn
      have h6 : d * 481 ≤ d * (S / d) := Int.mul_le_mul_of_nonneg_left (by omega) (by omega)
      omega
  unfold lI lJ
  refine ⟨key _ _ hPD ?_ ?_, key _ _ hPD ?_ ?_⟩
  · unfold lS; omega
  · unfold lS; omega
  · unfold lT; rw [Int.mul_comm (ra l c : Int), Int.mul_comm (rb l c : Int)]; omega
  · unfold lT; rw [Int.mul_comm (ra l c : Int), Int.mul_comm (rb l c : Int)]; omega
def differenceA (t : PT) (p x y g h : Int) : Int64 := if ((2 ≤ (raysA t).length ∧ (perP t (pm t) : Int) ≤ 6) ∧ 0 ≤ p ∧ p < (((raysA t).length - 1 : Nat) : Int)) ∧ -60 ≤ x ∧ x ≤ 60 ∧ -60 ≤ y ∧ y ≤ 60 then (if 0 ≤ g ∧ 0 ≤ h ∧ g + h ≤ (pm t : Int) - 2 then dD (fmF t p.toNat x y) (pm t - 2) g.toNat h.toNat else (-9223372036854775808)) else (-9223372036854775808)
def formulaA (t : PT) (p x y : Int) : Int64 := if ((2 ≤ (raysA t).length ∧ (perP t (pm t) : Int) ≤ 6) ∧ 0 ≤ p ∧ p < (((raysA t).length - 1 : Nat) : Int)) ∧ -60 ≤ x ∧ x ≤ 60 ∧ -60 ≤ y ∧ y ≤ 60 then fmT t p.toNat x y else (-9223372036854775808)
set_option maxRecDepth 4000 in
theorem sp_X10_difference {σ : SG} (hC : atC I J σ) {p g h : Int} (hp : rg p) (hg : rg g) (hh : rg h) {x y : Int} (hx : rg x) (hy : rg y) : am_S G mX10_difference 5 0 0 [.ref 0, .int (iZ p), .int (iZ x), .int (iZ y), .int (iZ g), .int (iZ h)] (215, kK, kR, I, J) (am_ql (fun v w' => v = differenceA σ.1 p x y g h ∧ ∃ (I' : Nat → Nat → Int32) (J' : Nat → Nat → Int64), w' = (215, kK, kR, I', J') ∧ atC I' J' (σ) ∧ frC I J I' J')) := by
  have hm := hC.2.1.1
  have hF := hC.2.2.1.1.1
  have hper := hC.2.2.1.1.2.2.2
  have hp1 := perP_ok hC.2.1 (pm σ.1) (Nat.le_refl _)
  have hp2 := per_le hp1
  have f2 := hF.2.1
  have f3 := hF.2.2
  have hg1 := hg.1
  have hh1 := hh.1
  have hg2 := hg.2
  have hh2 := hh.2
  refine am_spec (plainFor_of_name (by decide +kernel)) (Nat.le_of_ble_eq_true rfl) (L := [some (.ref 0), some (.int (iZ p)), some (.int (iZ x)), some (.int (iZ y)), some (.int (iZ g)), some (.int (iZ h)), none]) rfl (fun X C T => ?_)
  refine am_aload_n (q := 1) C dX10_difference_0 rfl rfl ?_
  refine am_iload_n (q := 2) C dX10_difference_1 rfl rfl ?_
  refine am_callV (q := 5) (As := [.int (iZ p)]) (rest := []) C mb_X10_hasFormula im_X10_hasFormula se_X10_hasFormula ml_X10_223 cb_10 kk_0 (show 0 < 215 by decide) dX10_difference_2 rfl (sp_X10_hasFormula hC hp) rfl rfl ⟨by decide, by decide⟩ ⟨Nat.le_refl _, Nat.le_refl _⟩ (Nat.le_of_ble_eq_true rfl) (am_rie ?_)
  refine am_ifB_eq (q := 8) (tgt := 16) C dX10_difference_5 (by decide) rfl (fun c1 => ?_) (fun c1 => ?_)
  · refine am_ldc2 (q := 19) C dX10_difference_16 rfl ck_X10_168 ?_
    refine am_lret C T dX10_difference_19 rfl (Nat.le_refl _) (Nat.le_refl _) ⟨_, rfl, ?_⟩
    have e1 : differenceA σ.1 p x y g h = (-9223372036854775808) := by
      unfold differenceA
      first | exact if_neg (by omega) | (rw [if_pos (by omega)]; exact if_neg (by omega))
    rw [e1]
    exact ⟨rfl, _, _, rfl, hC, frC_refl⟩
  · refine am_iload_n (q := 9) C dX10_difference_8 rfl rfl ?_
    refine am_iload_n (q := 10) C dX10_difference_9 rfl rfl ?_
    refine am_callS (q := 13) (As := [.int (iZ x), .int (iZ y)]) (rest := []) C mb_X10_isSpot st_X10_isSpot ml_X10_210 dX10_difference_10 rfl (sp_X10_isSpot hx hy) rfl rfl ⟨by decide, by decide⟩ ⟨Nat.le_refl _, Nat.le_refl _⟩ (Nat.le_of_ble_eq_true rfl) (am_rie ?_)
    refine am_ifB_ne (q := 16) (tgt := 20) C dX10_difference_13 (by decide) rfl (fun c2 => ?_) (fun c2 => ?_)
    · refine am_aload_n (q := 21) C dX10_difference_20 rfl rfl ?_
      refine am_getR (q := 24) C fb_X10_14 dX10_difference_21 rfl rfl kk_0 (show 0 < 215 by decide) kr_0_0 ?_
      refine am_getIe (q := 27) (v := (iZ (pm σ.1 : Int))) C fb_X10_103 dX10_difference_24 rfl rfl kk_1 (show 1 < 215 by decide) hC.1.1 ?_
      refine am_iconst (q := 28) (v := iZ 2) C dX10_difference_27 rfl rfl ?_
      refine am_isubZ (q := 29) C dX10_difference_28 rfl ?_
      refine am_istore (q := 31) (L' := [some (.ref 0), some (.int (iZ p)), some (.int (iZ x)), some (.int (iZ y)), some (.int (iZ g)), some (.int (iZ h)), some (.int (iZ ((pm σ.1 : Int) - 2)))]) C dX10_difference_29 rfl (by decide) rfl rfl ?_
      refine am_iload (q := 33) C dX10_difference_31 rfl rfl ?_
      refine am_ifZ_lt (q := 36) (tgt := 58) C dX10_difference_33 (by decide) rfl hg (fun c3 => ?_) (fun c3 => ?_)
      · refine am_ldc2 (q := 61) C dX10_difference_58 rfl ck_X10_168 ?_
        refine am_lret C T dX10_difference_61 rfl (Nat.le_refl _) (Nat.le_refl _) ⟨_, rfl, ?_⟩
        have e1 : differenceA σ.1 p x y g h = (-9223372036854775808) := by
          unfold differenceA
          first | exact if_neg (by omega) | (rw [if_pos (by omega)]; exact if_neg (by omega))
        rw [e1]
        exact ⟨rfl, _, _, rfl, hC, frC_refl⟩
      · refine am_iload (q := 38) C dX10_difference_36 rfl rfl ?_
        refine am_ifZ_lt (q := 41) (tgt := 58) C dX10_difference_38 (by decide) rfl hh (fun c4 => ?_) (fun c4 => ?_)
        · refine am_ldc2 (q := 61) C dX10_difference_58 rfl ck_X10_168 ?_
          refine am_lret C T dX10_difference_61 rfl (Nat.le_refl _) (Nat.le_refl _) ⟨_, rfl, ?_⟩
          have e1 : differenceA σ.1 p x y g h = (-9223372036854775808) := by
            unfold differenceA
            first | exact if_neg (by omega) | (rw [if_pos (by omega)]; exact if_neg (by omega))
          rw [e1]
          exact ⟨rfl, _, _, rfl, hC, frC_refl⟩
        · refine am_iload (q := 43) C dX10_difference_41 rfl rfl ?_
          refine am_iload (q := 45) C dX10_difference_43 rfl rfl ?_
          refine am_icmpZ_gt (q := 48) (tgt := 58) C dX10_difference_45 (by decide) rfl hh ⟨by omega, by omega⟩ (fun c5 => ?_) (fun c5 => ?_)
          · refine am_ldc2 (q := 61) C dX10_difference_58 rfl ck_X10_168 ?_
            refine am_lret C T dX10_difference_61 rfl (Nat.le_refl _) (Nat.le_refl _) ⟨_, rfl, ?_⟩
            have e1 : differenceA σ.1 p x y g h = (-9223372036854775808) := by
              unfold differenceA
              first | exact if_neg (by omega) | (rw [if_pos (by omega)]; exact if_neg (by omega))
            rw [e1]
            exact ⟨rfl, _, _, rfl, hC, frC_refl⟩
          · refine am_iload (q := 50) C dX10_difference_48 rfl rfl ?_
            refine am_iload (q := 52) C dX10_difference_50 rfl rfl ?_
            refine am_iload (q := 54) C dX10_difference_52 rfl rfl ?_
            refine am_isubZ (q := 55) C dX10_difference_54 rfl ?_
            refine am_icmpZ_le (q := 58) (tgt := 62) C dX10_difference_55 (by decide) rfl hg ⟨by omega, by omega⟩ (fun c6 => ?_) (fun c6 => ?_)
            · refine am_aload_n (q := 63) C dX10_difference_62 rfl rfl ?_
              refine am_iload_n (q := 64) C dX10_difference_63 rfl rfl ?_
              refine am_iload_n (q := 65) C dX10_difference_64 rfl rfl ?_
              refine am_iload_n (q := 66) C dX10_difference_65 rfl rfl ?_
              obtain ⟨q, rfl⟩ : ∃ q : Nat, p = q := ⟨p.toNat, by omega⟩
              refine am_callV (As := [.int (iZ (q : Int)), .int (iZ x), .int (iZ y)]) (rest := []) C mb_X10_readyFormula im_X10_readyFormula se_X10_readyFormula ml_X10_242 cb_10 kk_0 (show 0 < 215 by decide) dX10_difference_66 rfl (sp_X10_readyFormula hC (q := q) (x := x) (y := y) (by omega) (by omega) (by omega) (by omega)) rfl rfl ⟨by decide, by decide⟩ ⟨Nat.le_refl _, Nat.le_refl _⟩ (Nat.le_of_ble_eq_true rfl) (am_rv (fun w' hw' => ?_))
              obtain ⟨I1, J1, rfl, hr1, hI1, hJ1⟩ := hw'
              have hC1 : atC I1 J1 σ := rdy_C hC hr1 hI1 hJ1
              obtain ⟨hL1, kx, ky, hkn, hT1, hkx, hky⟩ := hr1
              obtain ⟨l1, l2, l3, l4, l5, l6, l7, l8⟩ := hL1
              have hv := fm_hv hC.2.1 (c := q) (by omega) (by omega) (fun k hk => ⟨(f3 k hk).2.2.1, (f3 k hk).2.2.2⟩) hkn hT1 hkx hky x y
              refine am_aload_n (q := 70) C dX10_difference_69 rfl rfl ?_
              refine am_getR (q := 73) C fb_X10_73 dX10_difference_70 rfl rfl kk_0 (show 0 < 215 by decide) kr_0_9 ?_
              refine am_iload (q := 75) C dX10_difference_73 rfl rfl ?_
              refine am_aload_n (q := 76) C dX10_difference_75 rfl rfl ?_
              refine am_getR (q := 79) C fb_X10_52 dX10_difference_76 rfl rfl kk_0 (show 0 < 215 by decide) kr_0_6 ?_
              obtain ⟨g1, rfl⟩ : ∃ z : Nat, g = z := ⟨g.toNat, by omega⟩
              obtain ⟨h1, rfl⟩ : ∃ z : Nat, h = z := ⟨h.toNat, by omega⟩
              rw [show (pm σ.1 : Int) - 2 = ((pm σ.1 - 2 : Nat) : Int) by omega]
              refine am_callN (q := 82) (As := [.int (iZ ((pm σ.1 - 2 : Nat) : Int)), .ref 174]) (rest := []) C mb_X3_readDifferences im_X3_readDifferences se_X3_readDifferences mn_X10_246 cb_3 kk_180 (show 180 < 215 by decide) dX10_difference_79 rfl (sp_X3_readDifferences (n := pm σ.1 - 2) (by omega) hkn l7 l8 l1 l2 l3 l4 hv) rfl rfl ⟨by decide, by decide⟩ ⟨Nat.le_refl _, Nat.le_refl _⟩ (Nat.le_of_ble_eq_true rfl) (am_rv (fun w' hw' => ?_))
              obtain ⟨J2, rfl, hJ2, hd2⟩ := hw'
              refine am_aload_n (q := 83) C dX10_difference_82 rfl rfl ?_
              refine am_getR (q := 86) C fb_X10_73 dX10_difference_83 rfl rfl kk_0 (show 0 < 215 by decide) kr_0_9 ?_
              refine am_iload (q := 88) C dX10_difference_86 rfl rfl ?_
              refine am_iload (q := 90) C dX10_difference_88 rfl rfl ?_
              refine am_callN (q := 93) (As := [.int (iZ (g1 : Int)), .int (iZ (h1 : Int))]) (rest := []) C mb_X3_differenceAt im_X3_differenceAt se_X3_differenceAt mn_X10_250 cb_3 kk_180 (show 180 < 215 by decide) dX10_difference_90 rfl (sp_X3_differenceAt (g := g1) (h := h1) (by omega) (by omega)) rfl rfl ⟨by decide, by decide⟩ ⟨Nat.le_refl _, Nat.le_refl _⟩ (Nat.le_of_ble_eq_true rfl) (am_rle ?_)
              refine am_longE (hd2 g1 h1 (by omega)) ?_
              refine am_lret C T dX10_difference_93 rfl (Nat.le_refl _) (Nat.le_refl _) ⟨_, rfl, ?_⟩
              have e1 : differenceA σ.1 (q : Int) x y (g1 : Int) (h1 : Int) = dD (fmF σ.1 q x y) (pm σ.1 - 2) g1 h1 := by
                unfold differenceA
                rw [if_pos (by omega), if_pos (by omega), Int.toNat_natCast, Int.toNat_natCast, Int.toNat_natCast]
              rw [e1]
              exact ⟨rfl, _, _, rfl, atC_loc hC1 ⟨kx, ky, hkn, fun x y h1 h2 => by rw [hJ2 175 (by decide)]; exact hT1 x y h1 h2⟩ (fun x _ _ => rfl) (fun x h1 h2 => hJ2 x h2), frC_tr (frC_loc hI1 (fun x h1 _ => hJ1 x h1)) (frC_loc (fun x _ _ => rfl) (fun x h1 h2 => hJ2 x h2))⟩
            · refine am_ldc2 (q := 61) C dX10_difference_58 rfl ck_X10_168 ?_
              refine am_lret C T dX10_difference_61 rfl (Nat.le_refl _) (Nat.le_refl _) ⟨_, rfl, ?_⟩
              have e1 : differenceA σ.1 p x y g h = (-9223372036854775808) := by
                unfold differenceA
                first | exact if_neg (by omega) | (rw [if_pos (by omega)]; exact if_neg (by omega))
              rw [e1]
              exact ⟨rfl, _, _, rfl, hC, frC_refl⟩
    · refine am_ldc2 (q := 19) C dX10_difference_16 rfl ck_X10_168 ?_
      refine am_lret C T dX10_difference_19 rfl (Nat.le_refl _) (Nat.le_refl _) ⟨_, rfl, ?_⟩
      have e1 : differenceA σ.1 p x y g h = (-9223372036854775808) := by
        unfold differenceA
        first | exact if_neg (by omega) | (rw [if_pos (by omega)]; exact if_neg (by omega))
      rw [e1]
      exact ⟨rfl, _, _, rfl, hC, frC_refl⟩
set_option maxRecDepth 4000 in
theorem sp_X10_formula {σ : SG} (hC : atC I J σ) {p : Int} (hp : rg p) {x y : Int} (hx : rg x) (hy : rg y) : am_S G mX10_formula 5 0 0 [.ref 0, .int (iZ p), .int (iZ x), .int (iZ y)] (215, kK, kR, I, J) (am_ql (fun v w' => v = formulaA σ.1 p x y ∧ ∃ (I' : Nat → Nat → Int32) (J' : Nat → Nat → Int64), w' = (215, kK, kR, I', J') ∧ atC I' J' (σ) ∧ frC I J I' J')) := by
  have hm := hC.2.1.1
  have hF := hC.2.2.1.1.1
  have hper := hC.2.2.1.1.2.2.2
  have hp1 := perP_ok hC.2.1 (pm σ.1) (Nat.le_refl _)
  have hp2 := per_le hp1
  have f2 := hF.2.1
  have f3 := hF.2.2
  refine am_spec (plainFor_of_name (by decide +kernel)) (Nat.le_of_ble_eq_true rfl) (L := [some (.ref 0), some (.int (iZ p)), some (.int (iZ x)), some (.int (iZ y))]) rfl (fun X C T => ?_)
  refine am_aload_n (q := 1) C dX10_formula_0 rfl rfl ?_
  refine am_iload_n (q := 2) C dX10_formula_1 rfl rfl ?_
  refine am_callV (q := 5) (As := [.int (iZ p)]) (rest := []) C mb_X10_hasFormula im_X10_hasFormula se_X10_hasFormula ml_X10_223 cb_10 kk_0 (show 0 < 215 by decide) dX10_formula_2 rfl (sp_X10_hasFormula hC hp) rfl rfl ⟨by decide, by decide⟩ ⟨Nat.le_refl _, Nat.le_refl _⟩ (Nat.le_of_ble_eq_true rfl) (am_rie ?_)
  refine am_ifB_eq (q := 8) (tgt := 16) C dX10_formula_5 (by decide) rfl (fun c1 => ?_) (fun c1 => ?_)
  · refine am_ldc2 (q := 19) C dX10_formula_16 rfl ck_X10_168 ?_
    refine am_lret C T dX10_formula_19 rfl (Nat.le_refl _) (Nat.le_refl _) ⟨_, rfl, ?_⟩
    have e1 : formulaA σ.1 p x y = (-9223372036854775808) := if_neg (by omega)
    rw [e1]
    exact ⟨rfl, _, _, rfl, hC, frC_refl⟩
  · refine am_iload_n (q := 9) C dX10_formula_8 rfl rfl ?_
    refine am_iload_n (q := 10) C dX10_formula_9 rfl rfl ?_
    refine am_callS (q := 13) (As := [.int (iZ x), .int (iZ y)]) (rest := []) C mb_X10_isSpot st_X10_isSpot ml_X10_210 dX10_formula_10 rfl (sp_X10_isSpot hx hy) rfl rfl ⟨by decide, by decide⟩ ⟨Nat.le_refl _, Nat.le_refl _⟩ (Nat.le_of_ble_eq_true rfl) (am_rie ?_)
    refine am_ifB_ne (q := 16) (tgt := 20) C dX10_formula_13 (by decide) rfl (fun c2 => ?_) (fun c2 => ?_)
    · refine am_aload_n (q := 21) C dX10_formula_20 rfl rfl ?_
      refine am_iload_n (q := 22) C dX10_formula_21 rfl rfl ?_
      refine am_iload_n (q := 23) C dX10_formula_22 rfl rfl ?_
      refine am_iload_n (q := 24) C dX10_formula_23 rfl rfl ?_
      obtain ⟨q, rfl⟩ : ∃ q : Nat, p = q := ⟨p.toNat, by omega⟩
      refine am_callV (As := [.int (iZ (q : Int)), .int (iZ x), .int (iZ y)]) (rest := []) C mb_X10_readyFormula im_X10_readyFormula se_X10_readyFormula ml_X10_242 cb_10 kk_0 (show 0 < 215 by decide) dX10_formula_24 rfl (sp_X10_readyFormula hC (q := q) (x := x) (y := y) (by omega) (by omega) (by omega) (by omega)) rfl rfl ⟨by decide, by decide⟩ ⟨Nat.le_refl _, Nat.le_refl _⟩ (Nat.le_of_ble_eq_true rfl) (am_rv (fun w' hw' => ?_))
      obtain ⟨I1, J1, rfl, hr1, hI1, hJ1⟩ := hw'
      have hC1 : atC I1 J1 σ := rdy_C hC hr1 hI1 hJ1
      obtain ⟨hL1, kx, ky, hkn, hT1, hkx, hky⟩ := hr1
      obtain ⟨l1, l2, l3, l4, l5, l6, l7, l8⟩ := hL1
      have hv := fm_hv hC.2.1 (c := q) (by omega) (by omega) (fun k hk => ⟨(f3 k hk).2.2.1, (f3 k hk).2.2.2⟩) hkn hT1 hkx hky x y
      refine am_aload_n (q := 28) C dX10_formula_27 rfl rfl ?_
      refine am_getR (q := 31) C fb_X10_73 dX10_formula_28 rfl rfl kk_0 (show 0 < 215 by decide) kr_0_9 ?_
      refine am_aload_n (q := 32) C dX10_formula_31 rfl rfl ?_
      refine am_getR (q := 35) C fb_X10_14 dX10_formula_32 rfl rfl kk_0 (show 0 < 215 by decide) kr_0_0 ?_
      refine am_getIe (q := 38) (v := (iZ (pm σ.1 : Int))) C fb_X10_103 dX10_formula_35 rfl rfl kk_1 (show 1 < 215 by decide) hC1.1.1 ?_
      refine am_iconst (q := 39) (v := iZ 2) C dX10_formula_38 rfl rfl ?_
      refine am_isubZ (q := 40) C dX10_formula_39 rfl ?_
      refine am_aload_n (q := 41) C dX10_formula_40 rfl rfl ?_
      refine am_getR (q := 44) C fb_X10_52 dX10_formula_41 rfl rfl kk_0 (show 0 < 215 by decide) kr_0_6 ?_
      have hij := lIJ_rg (c := q) (P := perP σ.1 (pm σ.1)) (x := x) (y := y) hp1.1 (rays_D hC.2.1 (by omega)) ⟨(f3 q (by omega)).2.2.1, (f3 q (by omega)).2.2.2⟩ ⟨(f3 (q + 1) (by omega)).2.2.1, (f3 (q + 1) (by omega)).2.2.2⟩ (by omega) (by omega)
      have hm2 := rays_2 (t := σ.1) (by omega)
      rw [show (pm σ.1 : Int) - 2 = ((pm σ.1 - 2 : Nat) : Int) by omega]
      refine am_callN (q := 47) (As := [.int (iZ ((pm σ.1 - 2 : Nat) : Int)), .ref 174]) (rest := []) C mb_X3_told im_X3_told se_X3_told mn_X10_253 cb_3 kk_180 (show 180 < 215 by decide) dX10_formula_44 rfl (sp_X3_told (n := pm σ.1 - 2) (by omega) hkn l7 l8 l5 l6 l1 l2 l3 l4 hv hij.1 hij.2) rfl rfl ⟨by decide, by decide⟩ ⟨Nat.le_refl _, Nat.le_refl _⟩ (Nat.le_of_ble_eq_true rfl) (am_rl (fun v' w' hw' => ?_))
      obtain ⟨rfl, J2, rfl, hJ2⟩ := hw'
      refine am_longE (show _ = fmT σ.1 q x y from rfl) ?_
      refine am_lret C T dX10_formula_47 rfl (Nat.le_refl _) (Nat.le_refl _) ⟨_, rfl, ?_⟩
      have e1 : formulaA σ.1 (q : Int) x y = fmT σ.1 q x y := by
        unfold formulaA
        rw [if_pos (by omega), Int.toNat_natCast]
      rw [e1]
      exact ⟨rfl, _, _, rfl, atC_loc hC1 ⟨kx, ky, hkn, fun x y h1 h2 => by rw [hJ2 175 (by decide)]; exact hT1 x y h1 h2⟩ (fun x _ _ => rfl) (fun x h1 h2 => hJ2 x h2), frC_tr (frC_loc hI1 (fun x h1 _ => hJ1 x h1)) (frC_loc (fun x _ _ => rfl) (fun x h1 h2 => hJ2 x h2))⟩
    · refine am_ldc2 (q := 19) C dX10_formula_16 rfl ck_X10_168 ?_
      refine am_lret C T dX10_formula_19 rfl (Nat.le_refl _) (Nat.le_refl _) ⟨_, rfl, ?_⟩
      have e1 : formulaA σ.1 p x y = (-9223372036854775808) := if_neg (by omega)
      rw [e1]
      exact ⟨rfl, _, _, rfl, hC, frC_refl⟩
