variable {G : am_G} {I : Nat → Nat → Int32} {J : Nat → Nat → Int64}
set_option maxRecDepth 4000 in
theorem sp_X11_common {a b : Nat} (ha : a < 2147483648) (hb : b < 2147483648) : am_S G mX11_common 1 0 0 [.int (iZ (a : Int)), .int (iZ (b : Int))] (215, kK, kR, I, J) (am_fi (iZ (Nat.gcd a b : Int)) (215, kK, kR, I, J)) := by
  refine am_spec (plainFor_of_name (by decide +kernel)) (Nat.le_of_ble_eq_true rfl) (L := [some (.int (iZ (a : Int))), some (.int (iZ (b : Int))), none, none, none]) rfl (fun X C T => ?_)
  have lp : ∀ (fuel : Nat) (x y : Nat), (x < 2147483648) → (y < 2147483648) → (Nat.gcd x y = Nat.gcd a b) → (y) < fuel → am_A G mX11_common X (am_rm 1 0 0) 4 [some (.int (iZ (a : Int))), some (.int (iZ (b : Int))), some (.int (iZ (x : Int))), some (.int (iZ (y : Int))), none] [] (215, kK, kR, I, J) 0 0 := by
    intro fuel
    induction fuel with
    | zero => intro x y hx hy hg hf; exact absurd hf (Nat.not_lt_zero _)
    | succ fuel ih =>
      intro x y hx hy hg hf
      have hl0 : (0 : Int) ≤ ((x % y : Nat) : Int) := Int.natCast_nonneg _
      refine am_iload_n (q := 5) C dX11_common_4 rfl rfl ?_
      refine am_ifZ_eq (q := 8) (tgt := 21) C dX11_common_5 (by decide) rfl ⟨by omega, by omega⟩ (fun c1 => ?_) (fun c1 => ?_)
      · refine am_iload_n (q := 22) C dX11_common_21 rfl rfl ?_
        refine am_iret C T dX11_common_22 rfl (Nat.le_refl _) (Nat.le_refl _) ⟨_, rfl, ?_⟩
        have e0 : y = 0 := by omega
        rw [e0, Nat.gcd_zero_right] at hg
        rw [hg]
        exact ⟨rfl, rfl⟩
      · refine am_iload_n (q := 9) C dX11_common_8 rfl rfl ?_
        refine am_iload_n (q := 10) C dX11_common_9 rfl rfl ?_
        refine am_iremZ (q := 11) C dX11_common_10 rfl ⟨by omega, by omega⟩ ⟨by omega, by omega⟩ (by omega) (by omega) ?_
        refine am_intE (y := (iZ ((x % y : Nat) : Int))) (congrArg iZ rfl) ?_
        refine am_istore (q := 13) (L' := [some (.int (iZ (a : Int))), some (.int (iZ (b : Int))), some (.int (iZ (x : Int))), some (.int (iZ (y : Int))), some (.int (iZ ((x % y : Nat) : Int)))]) C dX11_common_11 rfl (by decide) rfl rfl ?_
        refine am_iload_n (q := 14) C dX11_common_13 rfl rfl ?_
        refine am_istore_n (q := 15) (L' := [some (.int (iZ (a : Int))), some (.int (iZ (b : Int))), some (.int (iZ (y : Int))), some (.int (iZ (y : Int))), some (.int (iZ ((x % y : Nat) : Int)))]) C dX11_common_14 rfl (by decide) rfl rfl ?_
        refine am_iload (q := 17) C dX11_common_15 rfl rfl ?_
        refine am_istore_n (q := 18) (L' := [some (.int (iZ (a : Int))), some (.int (iZ (b : Int))), some (.int (iZ (y : Int))), some (.int (iZ ((x % y : Nat) : Int))), some (.int (iZ ((x % y : Nat) : Int)))]) C dX11_common_17 rfl (by decide) rfl rfl ?_
        refine am_goto (q := 4) C dX11_common_18 (by decide) ?_
        refine am_wkA (L1 := [some (.int (iZ (a : Int))), some (.int (iZ (b : Int))), some (.int (iZ (y : Int))), some (.int (iZ ((x % y : Nat) : Int))), none]) ⟨rfl, ⟨rfl, ⟨rfl, ⟨rfl, trivial⟩⟩⟩⟩ ?_
        have hl := Nat.mod_lt x (show y > 0 by omega)
        exact ih y (x % y) hy (by omega) (by rw [← hg, Nat.gcd_comm x y, Nat.gcd_rec y x, Nat.gcd_comm]) (by omega)
  refine am_iload_n (q := 1) C dX11_common_0 rfl rfl ?_
  refine am_istore_n (q := 2) (L' := [some (.int (iZ (a : Int))), some (.int (iZ (b : Int))), some (.int (iZ (a : Int))), none, none]) C dX11_common_1 rfl (by decide) rfl rfl ?_
  refine am_iload_n (q := 3) C dX11_common_2 rfl rfl ?_
  refine am_istore_n (q := 4) (L' := [some (.int (iZ (a : Int))), some (.int (iZ (b : Int))), some (.int (iZ (a : Int))), some (.int (iZ (b : Int))), none]) C dX11_common_3 rfl (by decide) rfl rfl ?_
  exact lp (b + 1) a b ha hb rfl (by omega)
theorem dt_rg {t : PT} (h : okP t) {p q : Nat} (hp : p < pm t) (hq : q < pm t) : -16 ≤ dt (dP t p) (dP t q) ∧ dt (dP t p) (dP t q) ≤ 16 := by
  have h1 := detN_le h hp hq
  have e : detN t p q = (dt (dP t p) (dP t q)).natAbs := rfl
  omega
theorem atQ.fr {I' : Nat → Nat → Int32} {J' : Nat → Nat → Int64} {t : PT} (h : atQ I J t) (hf : frS I J I' J') : atQ I' J' t := h.on (hf.1 0 (by omega)) (hf.2 192 (by omega) (by omega)).1 (hf.2 193 (by omega) (by omega)).1 (hf.2 194 (by omega) (by omega)).1 (hf.2 195 (by omega) (by omega)).2
set_option maxRecDepth 4000 in
theorem sp_X11_det {t : PT} (hA : atQ I J t) (hK : okP t) {p q : Nat} (hp : p < pm t) (hq : q < pm t) : am_S G mX11_det 1 0 0 [.ref 191, .int (iZ (p : Int)), .int (iZ (q : Int))] (215, kK, kR, I, J) (am_fi (iZ (dt (dP t p) (dP t q))) (215, kK, kR, I, J)) := by
  have hm := hK.1
  refine am_spec (plainFor_of_name (by decide +kernel)) (Nat.le_of_ble_eq_true rfl) (L := [some (.ref 191), some (.int (iZ (p : Int))), some (.int (iZ (q : Int)))]) rfl (fun X C T => ?_)
  refine am_aload_n (q := 1) C dX11_det_0 rfl rfl ?_
  refine am_getR (q := 4) C fb_X11_15 dX11_det_1 rfl rfl kk_191 (show 191 < 215 by decide) kr_191_4 ?_
  refine am_iload_n (q := 5) C dX11_det_4 rfl rfl ?_
  refine am_ialoadZ (q := 6) p C dX11_det_5 rfl kk_192 (show 192 < 215 by decide) rfl (by omega) (by decide) ?_
  refine am_intE (y := (iZ (pa t p : Int))) (hA.2 p hp).1 ?_
  refine am_aload_n (q := 7) C dX11_det_6 rfl rfl ?_
  refine am_getR (q := 10) C fb_X11_19 dX11_det_7 rfl rfl kk_191 (show 191 < 215 by decide) kr_191_5 ?_
  refine am_iload_n (q := 11) C dX11_det_10 rfl rfl ?_
  refine am_ialoadZ (q := 12) q C dX11_det_11 rfl kk_193 (show 193 < 215 by decide) rfl (by omega) (by decide) ?_
  refine am_intE (y := (iZ (pb t q : Int))) (hA.2 q hq).2.1 ?_
  refine am_imulZ (q := 13) C dX11_det_12 rfl ?_
  refine am_aload_n (q := 14) C dX11_det_13 rfl rfl ?_
  refine am_getR (q := 17) C fb_X11_19 dX11_det_14 rfl rfl kk_191 (show 191 < 215 by decide) kr_191_5 ?_
  refine am_iload_n (q := 18) C dX11_det_17 rfl rfl ?_
  refine am_ialoadZ (q := 19) p C dX11_det_18 rfl kk_193 (show 193 < 215 by decide) rfl (by omega) (by decide) ?_
  refine am_intE (y := (iZ (pb t p : Int))) (hA.2 p hp).2.1 ?_
  refine am_aload_n (q := 20) C dX11_det_19 rfl rfl ?_
  refine am_getR (q := 23) C fb_X11_15 dX11_det_20 rfl rfl kk_191 (show 191 < 215 by decide) kr_191_4 ?_
  refine am_iload_n (q := 24) C dX11_det_23 rfl rfl ?_
  refine am_ialoadZ (q := 25) q C dX11_det_24 rfl kk_192 (show 192 < 215 by decide) rfl (by omega) (by decide) ?_
  refine am_intE (y := (iZ (pa t q : Int))) (hA.2 q hq).1 ?_
  refine am_imulZ (q := 26) C dX11_det_25 rfl ?_
  refine am_isubZ (q := 27) C dX11_det_26 rfl ?_
  refine am_iret C T dX11_det_27 rfl (Nat.le_refl _) (Nat.le_refl _) ⟨_, rfl, ?_⟩
  exact ⟨rfl, rfl⟩
/-- 1 as long as no part q before p, of the first k, goes p's way -/
def fsN (t : PT) (p : Nat) : Nat → Nat
  | 0 => 1
  | k + 1 => if fsN t p k ≠ 0 ∧ (p ≤ k ∨ dt (dP t p) (dP t k) ≠ 0) then 1 else 0
theorem fsN_1 (t : PT) (p k : Nat) : fsN t p (k + 1) = if fsN t p k ≠ 0 ∧ (p ≤ k ∨ dt (dP t p) (dP t k) ≠ 0) then 1 else 0 := rfl
theorem fsN_le (t : PT) (p : Nat) : ∀ k, fsN t p k ≤ 1
  | 0 => Nat.le_refl _
  | k + 1 => by rw [fsN_1]; split <;> omega
theorem fsN_iff (t : PT) (p : Nat) : ∀ k, fsN t p k = 1 ↔ ∀ q, q < k → q < p → dt (dP t p) (dP t q) ≠ 0
  | 0 => ⟨fun _ q hq => absurd hq (Nat.not_lt_zero _), fun _ => rfl⟩
  | k + 1 => by
    have ih := fsN_iff t p k
    have hl := fsN_le t p k
    rw [fsN_1]
    constructor
    · intro h q hq hqp
      by_cases e : fsN t p k ≠ 0 ∧ (p ≤ k ∨ dt (dP t p) (dP t k) ≠ 0)
      · by_cases e2 : q = k
        · rw [e2]; rw [e2] at hqp; exact e.2.resolve_left (by omega)
        · exact ih.mp (by omega) q (by omega) hqp
      · rw [if_neg e] at h; exact absurd h (by decide)
    · intro h
      have h1 := ih.mpr (fun q hq hqp => h q (by omega) hqp)
      refine if_pos ⟨by omega, ?_⟩
      by_cases e : p ≤ k
      · exact Or.inl e
      · exact Or.inr (h k (by omega) (by omega))
theorem fsN_fst {t : PT} {p k : Nat} (h : p ≤ k) : fsN t p k = 1 ↔ fstP t p = true := by
  rw [fsN_iff, fstP_iff]
  exact ⟨fun g q hq => g q (by omega) hq, fun g q _ hq => g q hq⟩
def gtF (t : PT) (p : Nat) : Nat × Nat → Bool := fun y => decide (0 < dt y (dP t p))
theorem cntF_1 (t : PT) (F : Nat × Nat → Bool) (k : Nat) : cntF t F (k + 1) = cntF t F k + if fstP t k = true ∧ F (dP t k) = true then 1 else 0 := rfl
theorem cntF_le (t : PT) (F : Nat × Nat → Bool) : ∀ k, cntF t F k ≤ k
  | 0 => Nat.le_refl _
  | k + 1 => by
    have := cntF_le t F k
    rw [cntF_1]
    split <;> omega
abbrev rk (t : PT) (p : Nat) : Nat := fz (raysA t) (pa t p) (pb t p)
/-- rays as the Model found them -/
def rayM (I : Nat → Nat → Int32) (t : PT) : Prop := I 191 32 = iZ ((raysA t).length : Int) ∧ ∀ r, r < (raysA t).length → I 209 r = iZ (ra (raysA t) r : Int) ∧ I 210 r = iZ (rb (raysA t) r : Int) ∧ I 211 r = iZ (memP t (raysA t) r (pm t) : Int)
theorem mem_1 (t : PT) (l : List (Nat × Nat)) (r k : Nat) : memP t l r (k + 1) = memP t l r k + if fidx l (pa t k) (pb t k) = r then 1 else 0 := rfl
theorem ray_ab {t : PT} (h : okP t) {p : Nat} (hp : p < pm t) : ra (raysA t) (rk t p) = pa t p / Nat.gcd (pa t p) (pb t p) ∧ rb (raysA t) (rk t p) = pb t p / Nat.gcd (pa t p) (pb t p) := by
  have h1 := (ray_of h hp).2.1
  unfold ra rb
  rw [h1]
  exact ⟨rfl, rfl⟩
theorem mem_step {t : PT} (h : okP t) {p r : Nat} (hp : p < pm t) (hr : r < (raysA t).length) : fidx (raysA t) (pa t p) (pb t p) = r ↔ (pa t p : Int) * (rb (raysA t) r : Int) = (pb t p : Int) * (ra (raysA t) r : Int) := by
  obtain ⟨h1, h2, h3, h4⟩ := ray_of h hp
  have e1 : fidx (raysA t) (pa t p) (pb t p) = rk t p := by unfold fidx; rw [if_pos h1]
  have h5 := h4 r hr
  have e2 : dt ((raysA t).getD r (0, 0)) (dP t p) = (ra (raysA t) r : Int) * (pb t p : Int) - (rb (raysA t) r : Int) * (pa t p : Int) := rfl
  rw [e1]
  rw [e2, Int.mul_comm (ra (raysA t) r : Int), Int.mul_comm (rb (raysA t) r : Int)] at h5
  constructor
  · intro e
    have := h5.mpr e.symm
    omega
  · intro e
    exact (h5.mp (by omega)).symm
theorem ray_le {t : PT} (h : okP t) {k : Nat} (hk : k < (raysA t).length) : ra (raysA t) k ≤ 4 ∧ rb (raysA t) k ≤ 4 := by
  have hm : (raysA t).getD k (0, 0) ∈ raysA t := by
    rw [List.getD_eq_getElem?_getD, List.getElem?_eq_getElem hk]
    exact List.getElem_mem _
  have hD := (rays_ok h (pm t) (Nat.le_refl _)).1.1 _ hm
  exact ⟨hD.1, hD.2.1⟩
set_option maxRecDepth 8000 in
theorem sp_X11_findRays {t : PT} (hA : atQ I J t) (hK : okP t) : am_S G mX11_findRays 2 0 0 [.ref 191] (215, kK, kR, I, J) (am_qv (fun w' => ∃ I' : Nat → Nat → Int32, w' = (215, kK, kR, I', J) ∧ rayM I' t ∧ frS I J I' J)) := by
  have hm := hK.1
  have hlen : (raysA t).length ≤ pm t := raysP_len t (pm t)
  refine am_spec (plainFor_of_name (by decide +kernel)) (Nat.le_of_ble_eq_true rfl) (L := [some (.ref 191), none, none, none, none, none, none]) rfl (fun X C T => ?_)
  have a1 : ∀ (fuel : Nat) (p q : Nat) (I1 : Nat → Nat → Int32), (p < pm t) → (q ≤ pm t) → ((∀ k, k ≠ 32 → I1 191 k = I 191 k) ∧ ∀ h, h ≠ 191 → h < 209 ∨ 211 < h → I1 h = I h) → (pm t - q) < fuel → (am_A G mX11_findRays X (am_rm 2 0 0) 63 [some (.ref 191), some (.int (iZ (p : Int))), some (.int (iZ (fsN t p (pm t) : Int))), some (.int (iZ 0)), none, none, none] [] (215, kK, kR, I1, J) 0 0) → am_A G mX11_findRays X (am_rm 2 0 0) 22 [some (.ref 191), some (.int (iZ (p : Int))), some (.int (iZ (fsN t p q : Int))), some (.int (iZ 0)), some (.int (iZ (q : Int))), none, none] [] (215, kK, kR, I1, J) 0 0 := by
    intro fuel
    induction fuel with
    | zero => intro p q I1 hp hq hF hfu hk9; exact absurd hfu (Nat.not_lt_zero _)
    | succ fuel ih =>
      intro p q I1 hp hq hF hfu hk9
      have hA1 : atQ I1 J t := hA.on (hF.1 0 (by decide)) (hF.2 192 (by decide) (by decide)) (hF.2 193 (by decide) (by decide)) (hF.2 194 (by decide) (by decide)) rfl
      have hl1 := fsN_le t p q
      refine am_iload (q := 24) C dX11_findRays_22 rfl rfl ?_
      refine am_aload_n (q := 25) C dX11_findRays_24 rfl rfl ?_
      refine am_getIe (q := 28) (v := (iZ (pm t : Int))) C fb_X11_86 dX11_findRays_25 rfl rfl kk_191 (show 191 < 215 by decide) ((hF.1 0 (by decide)).trans hA.1) ?_
      refine am_icmpZ_ge (q := 31) (tgt := 63) C dX11_findRays_28 (by decide) rfl ⟨by omega, by omega⟩ ⟨by omega, by omega⟩ (fun c1 => ?_) (fun c1 => ?_)
      · refine am_wkA (L1 := [some (.ref 191), some (.int (iZ (p : Int))), some (.int (iZ (fsN t p q : Int))), some (.int (iZ 0)), none, none, none]) ⟨rfl, ⟨rfl, ⟨rfl, ⟨rfl, trivial⟩⟩⟩⟩ ?_
        have eq : q = pm t := by omega
        subst eq; exact hk9
      · refine am_iload_n (q := 32) C dX11_findRays_31 rfl rfl ?_
        refine am_ifZ_eq (q := 35) (tgt := 55) C dX11_findRays_32 (by decide) rfl ⟨by omega, by omega⟩ (fun c2 => ?_) (fun c2 => ?_)
        · refine am_iconst (q := 56) (v := iZ 0) C dX11_findRays_55 rfl rfl ?_
          refine am_istore_n (q := 57) (L' := [some (.ref 191), some (.int (iZ (p : Int))), some (.int (iZ 0)), some (.int (iZ 0)), some (.int (iZ (q : Int))), none, none]) C dX11_findRays_56 rfl (by decide) rfl rfl ?_
          refine am_iincZ (q := 60) (L' := [some (.ref 191), some (.int (iZ (p : Int))), some (.int (iZ 0)), some (.int (iZ 0)), some (.int (iZ ((q + 1 : Nat) : Int))), none, none]) C dX11_findRays_57 rfl rfl (by omega) (by decide) rfl rfl ?_
          refine am_goto (q := 22) C dX11_findRays_60 (by decide) ?_
          have e9 : fsN t p (q + 1) = 0 := by rw [fsN_1]; exact if_neg (fun z => by first | omega | exact absurd (z.2.resolve_left (by omega)) (by first | assumption | omega))
          have h9 := ih p (q + 1) I1 hp (by omega) hF (by omega) hk9
          rw [e9] at h9
          exact h9
        · refine am_iload (q := 37) C dX11_findRays_35 rfl rfl ?_
          refine am_iload_n (q := 38) C dX11_findRays_37 rfl rfl ?_
          refine am_icmpZ_ge (q := 41) (tgt := 51) C dX11_findRays_38 (by decide) rfl ⟨by omega, by omega⟩ ⟨by omega, by omega⟩ (fun c3 => ?_) (fun c3 => ?_)
          · refine am_iconst (q := 52) (v := iZ 1) C dX11_findRays_51 rfl rfl ?_
            refine am_goto (q := 56) C dX11_findRays_52 (by decide) ?_
            refine am_istore_n (q := 57) (L' := [some (.ref 191), some (.int (iZ (p : Int))), some (.int (iZ 1)), some (.int (iZ 0)), some (.int (iZ (q : Int))), none, none]) C dX11_findRays_56 rfl (by decide) rfl rfl ?_
            refine am_iincZ (q := 60) (L' := [some (.ref 191), some (.int (iZ (p : Int))), some (.int (iZ 1)), some (.int (iZ 0)), some (.int (iZ ((q + 1 : Nat) : Int))), none, none]) C dX11_findRays_57 rfl rfl (by omega) (by decide) rfl rfl ?_
            refine am_goto (q := 22) C dX11_findRays_60 (by decide) ?_
            have e9 : fsN t p (q + 1) = 1 := by rw [fsN_1]; exact if_pos ⟨by omega, by first | exact Or.inl (by omega) | exact Or.inr (by assumption)⟩
            have h9 := ih p (q + 1) I1 hp (by omega) hF (by omega) hk9
            rw [e9] at h9
            exact h9
          · refine am_aload_n (q := 42) C dX11_findRays_41 rfl rfl ?_
            refine am_iload_n (q := 43) C dX11_findRays_42 rfl rfl ?_
            refine am_iload (q := 45) C dX11_findRays_43 rfl rfl ?_
            have hdr := dt_rg hK (p := p) (q := q) (by omega) (by omega)
            refine am_callV (As := [.int (iZ (p : Int)), .int (iZ (q : Int))]) (rest := []) C mb_X11_det im_X11_det se_X11_det ml_X11_222 cb_11 kk_191 (show 191 < 215 by decide) dX11_findRays_45 rfl (sp_X11_det hA1 hK (p := p) (q := q) (by omega) (by omega)) rfl rfl ⟨by decide, by decide⟩ ⟨Nat.le_refl _, Nat.le_refl _⟩ (Nat.le_of_ble_eq_true rfl) (am_rie ?_)
            refine am_ifZ_eq (q := 51) (tgt := 55) C dX11_findRays_48 (by decide) rfl ⟨by omega, by omega⟩ (fun c4 => ?_) (fun c4 => ?_)
            · refine am_iconst (q := 56) (v := iZ 0) C dX11_findRays_55 rfl rfl ?_
              refine am_istore_n (q := 57) (L' := [some (.ref 191), some (.int (iZ (p : Int))), some (.int (iZ 0)), some (.int (iZ 0)), some (.int (iZ (q : Int))), none, none]) C dX11_findRays_56 rfl (by decide) rfl rfl ?_
              refine am_iincZ (q := 60) (L' := [some (.ref 191), some (.int (iZ (p : Int))), some (.int (iZ 0)), some (.int (iZ 0)), some (.int (iZ ((q + 1 : Nat) : Int))), none, none]) C dX11_findRays_57 rfl rfl (by omega) (by decide) rfl rfl ?_
              refine am_goto (q := 22) C dX11_findRays_60 (by decide) ?_
              have e9 : fsN t p (q + 1) = 0 := by rw [fsN_1]; exact if_neg (fun z => by first | omega | exact absurd (z.2.resolve_left (by omega)) (by first | assumption | omega))
              have h9 := ih p (q + 1) I1 hp (by omega) hF (by omega) hk9
              rw [e9] at h9
              exact h9
            · refine am_iconst (q := 52) (v := iZ 1) C dX11_findRays_51 rfl rfl ?_
              refine am_goto (q := 56) C dX11_findRays_52 (by decide) ?_
              refine am_istore_n (q := 57) (L' := [some (.ref 191), some (.int (iZ (p : Int))), some (.int (iZ 1)), some (.int (iZ 0)), some (.int (iZ (q : Int))), none, none]) C dX11_findRays_56 rfl (by decide) rfl rfl ?_
              refine am_iincZ (q := 60) (L' := [some (.ref 191), some (.int (iZ (p : Int))), some (.int (iZ 1)), some (.int (iZ 0)), some (.int (iZ ((q + 1 : Nat) : Int))), none, none]) C dX11_findRays_57 rfl rfl (by omega) (by decide) rfl rfl ?_
              refine am_goto (q := 22) C dX11_findRays_60 (by decide) ?_
              have e9 : fsN t p (q + 1) = 1 := by rw [fsN_1]; exact if_pos ⟨by omega, by first | exact Or.inl (by omega) | exact Or.inr (by assumption)⟩
              have h9 := ih p (q + 1) I1 hp (by omega) hF (by omega) hk9
              rw [e9] at h9
              exact h9
  have r1 : ∀ (fuel : Nat) (p q r : Nat) (I1 : Nat → Nat → Int32), (p < pm t) → (q < pm t) → (r ≤ q) → ((∀ k, k ≠ 32 → I1 191 k = I 191 k) ∧ ∀ h, h ≠ 191 → h < 209 ∨ 211 < h → I1 h = I h) → (q - r) < fuel → (am_A G mX11_findRays X (am_rm 2 0 0) 117 [some (.ref 191), some (.int (iZ (p : Int))), some (.int (iZ (fsN t p (pm t) : Int))), some (.int (iZ (cntF t (gtF t p) q : Int))), some (.int (iZ (q : Int))), some (.int (iZ (fsN t q q : Int))), none] [] (215, kK, kR, I1, J) 0 0) → am_A G mX11_findRays X (am_rm 2 0 0) 81 [some (.ref 191), some (.int (iZ (p : Int))), some (.int (iZ (fsN t p (pm t) : Int))), some (.int (iZ (cntF t (gtF t p) q : Int))), some (.int (iZ (q : Int))), some (.int (iZ (fsN t q r : Int))), some (.int (iZ (r : Int)))] [] (215, kK, kR, I1, J) 0 0 := by
    intro fuel
    induction fuel with
    | zero => intro p q r I1 hp hq hr hF hfu hk9; exact absurd hfu (Nat.not_lt_zero _)
    | succ fuel ih =>
      intro p q r I1 hp hq hr hF hfu hk9
      have hA1 : atQ I1 J t := hA.on (hF.1 0 (by decide)) (hF.2 192 (by decide) (by decide)) (hF.2 193 (by decide) (by decide)) (hF.2 194 (by decide) (by decide)) rfl
      have hl1 := fsN_le t q r
      refine am_iload (q := 83) C dX11_findRays_81 rfl rfl ?_
      refine am_iload (q := 85) C dX11_findRays_83 rfl rfl ?_
      refine am_icmpZ_ge (q := 88) (tgt := 117) C dX11_findRays_85 (by decide) rfl ⟨by omega, by omega⟩ ⟨by omega, by omega⟩ (fun e1 => ?_) (fun e1 => ?_)
      · refine am_wkA (L1 := [some (.ref 191), some (.int (iZ (p : Int))), some (.int (iZ (fsN t p (pm t) : Int))), some (.int (iZ (cntF t (gtF t p) q : Int))), some (.int (iZ (q : Int))), some (.int (iZ (fsN t q r : Int))), none]) ⟨rfl, ⟨rfl, ⟨rfl, ⟨rfl, ⟨rfl, ⟨rfl, trivial⟩⟩⟩⟩⟩⟩ ?_
        have eq : r = q := by omega
        subst eq; exact hk9
      · refine am_iload (q := 90) C dX11_findRays_88 rfl rfl ?_
        refine am_ifZ_eq (q := 93) (tgt := 108) C dX11_findRays_90 (by decide) rfl ⟨by omega, by omega⟩ (fun e2 => ?_) (fun e2 => ?_)
        · refine am_iconst (q := 109) (v := iZ 0) C dX11_findRays_108 rfl rfl ?_
          refine am_istore (q := 111) (L' := [some (.ref 191), some (.int (iZ (p : Int))), some (.int (iZ (fsN t p (pm t) : Int))), some (.int (iZ (cntF t (gtF t p) q : Int))), some (.int (iZ (q : Int))), some (.int (iZ 0)), some (.int (iZ (r : Int)))]) C dX11_findRays_109 rfl (by decide) rfl rfl ?_
          refine am_iincZ (q := 114) (L' := [some (.ref 191), some (.int (iZ (p : Int))), some (.int (iZ (fsN t p (pm t) : Int))), some (.int (iZ (cntF t (gtF t p) q : Int))), some (.int (iZ (q : Int))), some (.int (iZ 0)), some (.int (iZ ((r + 1 : Nat) : Int)))]) C dX11_findRays_111 rfl rfl (by omega) (by decide) rfl rfl ?_
          refine am_goto (q := 81) C dX11_findRays_114 (by decide) ?_
          have e9 : fsN t q (r + 1) = 0 := by rw [fsN_1]; exact if_neg (fun z => by first | omega | exact absurd (z.2.resolve_left (by omega)) (by first | assumption | omega))
          have h9 := ih p q (r + 1) I1 hp hq (by omega) hF (by omega) hk9
          rw [e9] at h9
          exact h9
        · refine am_aload_n (q := 94) C dX11_findRays_93 rfl rfl ?_
          refine am_iload (q := 96) C dX11_findRays_94 rfl rfl ?_
          refine am_iload (q := 98) C dX11_findRays_96 rfl rfl ?_
          have hdr := dt_rg hK (p := q) (q := r) (by omega) (by omega)
          refine am_callV (As := [.int (iZ (q : Int)), .int (iZ (r : Int))]) (rest := []) C mb_X11_det im_X11_det se_X11_det ml_X11_222 cb_11 kk_191 (show 191 < 215 by decide) dX11_findRays_98 rfl (sp_X11_det hA1 hK (p := q) (q := r) (by omega) (by omega)) rfl rfl ⟨by decide, by decide⟩ ⟨Nat.le_refl _, Nat.le_refl _⟩ (Nat.le_of_ble_eq_true rfl) (am_rie ?_)
          refine am_ifZ_eq (q := 104) (tgt := 108) C dX11_findRays_101 (by decide) rfl ⟨by omega, by omega⟩ (fun e3 => ?_) (fun e3 => ?_)
          · refine am_iconst (q := 109) (v := iZ 0) C dX11_findRays_108 rfl rfl ?_
            refine am_istore (q := 111) (L' := [some (.ref 191), some (.int (iZ (p : Int))), some (.int (iZ (fsN t p (pm t) : Int))), some (.int (iZ (cntF t (gtF t p) q : Int))), some (.int (iZ (q : Int))), some (.int (iZ 0)), some (.int (iZ (r : Int)))]) C dX11_findRays_109 rfl (by decide) rfl rfl ?_
            refine am_iincZ (q := 114) (L' := [some (.ref 191), some (.int (iZ (p : Int))), some (.int (iZ (fsN t p (pm t) : Int))), some (.int (iZ (cntF t (gtF t p) q : Int))), some (.int (iZ (q : Int))), some (.int (iZ 0)), some (.int (iZ ((r + 1 : Nat) : Int)))]) C dX11_findRays_111 rfl rfl (by omega) (by decide) rfl rfl ?_
            refine am_goto (q := 81) C dX11_findRays_114 (by decide) ?_
            have e9 : fsN t q (r + 1) = 0 := by rw [fsN_1]; exact if_neg (fun z => by first | omega | exact absurd (z.2.resolve_left (by omega)) (by first | assumption | omega))
            have h9 := ih p q (r + 1) I1 hp hq (by omega) hF (by omega) hk9
            rw [e9] at h9
            exact h9
          · refine am_iconst (q := 105) (v := iZ 1) C dX11_findRays_104 rfl rfl ?_
            refine am_goto (q := 109) C dX11_findRays_105 (by decide) ?_
            refine am_istore (q := 111) (L' := [some (.ref 191), some (.int (iZ (p : Int))), some (.int (iZ (fsN t p (pm t) : Int))), some (.int (iZ (cntF t (gtF t p) q : Int))), some (.int (iZ (q : Int))), some (.int (iZ 1)), some (.int (iZ (r : Int)))]) C dX11_findRays_109 rfl (by decide) rfl rfl ?_
            refine am_iincZ (q := 114) (L' := [some (.ref 191), some (.int (iZ (p : Int))), some (.int (iZ (fsN t p (pm t) : Int))), some (.int (iZ (cntF t (gtF t p) q : Int))), some (.int (iZ (q : Int))), some (.int (iZ 1)), some (.int (iZ ((r + 1 : Nat) : Int)))]) C dX11_findRays_111 rfl rfl (by omega) (by decide) rfl rfl ?_
            refine am_goto (q := 81) C dX11_findRays_114 (by decide) ?_
            have e9 : fsN t q (r + 1) = 1 := by rw [fsN_1]; exact if_pos ⟨by omega, Or.inr (by assumption)⟩
            have h9 := ih p q (r + 1) I1 hp hq (by omega) hF (by omega) hk9
            rw [e9] at h9
            exact h9
  have b1 : ∀ (fuel : Nat) (p q : Nat) (I1 : Nat → Nat → Int32), (p < pm t) → (q ≤ pm t) → ((∀ k, k ≠ 32 → I1 191 k = I 191 k) ∧ ∀ h, h ≠ 191 → h < 209 ∨ 211 < h → I1 h = I h) → (pm t - q) < fuel → (am_A G mX11_findRays X (am_rm 2 0 0) 146 [some (.ref 191), some (.int (iZ (p : Int))), some (.int (iZ (fsN t p (pm t) : Int))), some (.int (iZ (cntF t (gtF t p) (pm t) : Int))), none, none, none] [] (215, kK, kR, I1, J) 0 0) → am_A G mX11_findRays X (am_rm 2 0 0) 66 [some (.ref 191), some (.int (iZ (p : Int))), some (.int (iZ (fsN t p (pm t) : Int))), some (.int (iZ (cntF t (gtF t p) q : Int))), some (.int (iZ (q : Int))), none, none] [] (215, kK, kR, I1, J) 0 0 := by
    intro fuel
    induction fuel with
    | zero => intro p q I1 hp hq hF hfu hk9; exact absurd hfu (Nat.not_lt_zero _)
    | succ fuel ih =>
      intro p q I1 hp hq hF hfu hk9
      have hA1 : atQ I1 J t := hA.on (hF.1 0 (by decide)) (hF.2 192 (by decide) (by decide)) (hF.2 193 (by decide) (by decide)) (hF.2 194 (by decide) (by decide)) rfl
      have hl2 := fsN_le t q q
      refine am_iload (q := 68) C dX11_findRays_66 rfl rfl ?_
      refine am_aload_n (q := 69) C dX11_findRays_68 rfl rfl ?_
      refine am_getIe (q := 72) (v := (iZ (pm t : Int))) C fb_X11_86 dX11_findRays_69 rfl rfl kk_191 (show 191 < 215 by decide) ((hF.1 0 (by decide)).trans hA.1) ?_
      refine am_icmpZ_ge (q := 75) (tgt := 146) C dX11_findRays_72 (by decide) rfl ⟨by omega, by omega⟩ ⟨by omega, by omega⟩ (fun g1 => ?_) (fun g1 => ?_)
      · refine am_wkA (L1 := [some (.ref 191), some (.int (iZ (p : Int))), some (.int (iZ (fsN t p (pm t) : Int))), some (.int (iZ (cntF t (gtF t p) q : Int))), none, none, none]) ⟨rfl, ⟨rfl, ⟨rfl, ⟨rfl, trivial⟩⟩⟩⟩ ?_
        have eq : q = pm t := by omega
        subst eq; exact hk9
      · refine am_iconst (q := 76) (v := iZ 1) C dX11_findRays_75 rfl rfl ?_
        refine am_istore (q := 78) (L' := [some (.ref 191), some (.int (iZ (p : Int))), some (.int (iZ (fsN t p (pm t) : Int))), some (.int (iZ (cntF t (gtF t p) q : Int))), some (.int (iZ (q : Int))), some (.int (iZ 1)), none]) C dX11_findRays_76 rfl (by decide) rfl rfl ?_
        refine am_iconst (q := 79) (v := iZ 0) C dX11_findRays_78 rfl rfl ?_
        refine am_istore (q := 81) (L' := [some (.ref 191), some (.int (iZ (p : Int))), some (.int (iZ (fsN t p (pm t) : Int))), some (.int (iZ (cntF t (gtF t p) q : Int))), some (.int (iZ (q : Int))), some (.int (iZ 1)), some (.int (iZ 0))]) C dX11_findRays_79 rfl (by decide) rfl rfl ?_
        refine r1 7 p q 0 I1 hp (by omega) (by omega) hF (by omega) ?_
        refine am_iload_n (q := 118) C dX11_findRays_117 rfl rfl ?_
        refine am_iload (q := 120) C dX11_findRays_118 rfl rfl ?_
        refine am_ifZ_eq (q := 123) (tgt := 137) C dX11_findRays_120 (by decide) rfl ⟨by omega, by omega⟩ (fun g2 => ?_) (fun g2 => ?_)
        · refine am_iconst (q := 138) (v := iZ 0) C dX11_findRays_137 rfl rfl ?_
          refine am_iaddZ (q := 139) C dX11_findRays_138 rfl ?_
          refine am_intE (y := (iZ ((cntF t (gtF t p) q + 0 : Nat) : Int))) (congrArg iZ (by omega)) ?_
          refine am_istore_n (q := 140) (L' := [some (.ref 191), some (.int (iZ (p : Int))), some (.int (iZ (fsN t p (pm t) : Int))), some (.int (iZ ((cntF t (gtF t p) q + 0 : Nat) : Int))), some (.int (iZ (q : Int))), some (.int (iZ (fsN t q q : Int))), none]) C dX11_findRays_139 rfl (by decide) rfl rfl ?_
          refine am_iincZ (q := 143) (L' := [some (.ref 191), some (.int (iZ (p : Int))), some (.int (iZ (fsN t p (pm t) : Int))), some (.int (iZ ((cntF t (gtF t p) q + 0 : Nat) : Int))), some (.int (iZ ((q + 1 : Nat) : Int))), some (.int (iZ (fsN t q q : Int))), none]) C dX11_findRays_140 rfl rfl (by omega) (by decide) rfl rfl ?_
          refine am_goto (q := 66) C dX11_findRays_143 (by decide) ?_
          refine am_wkA (L1 := [some (.ref 191), some (.int (iZ (p : Int))), some (.int (iZ (fsN t p (pm t) : Int))), some (.int (iZ ((cntF t (gtF t p) q + 0 : Nat) : Int))), some (.int (iZ ((q + 1 : Nat) : Int))), none, none]) ⟨rfl, ⟨rfl, ⟨rfl, ⟨rfl, ⟨rfl, trivial⟩⟩⟩⟩⟩ ?_
          have hfq := fsN_fst (t := t) (p := q) (k := q) (Nat.le_refl _)
          have e9 : cntF t (gtF t p) (q + 1) = cntF t (gtF t p) q + 0 := by
            rw [cntF_1]
            rw [if_neg (fun z => by
              have z1 := hfq.mpr z.1
              have z2 : 0 < dt (dP t q) (dP t p) := of_decide_eq_true z.2
              omega)]
          have h9 := ih p (q + 1) I1 hp (by omega) hF (by omega) hk9
          rw [e9] at h9
          exact h9
        · refine am_aload_n (q := 124) C dX11_findRays_123 rfl rfl ?_
          refine am_iload (q := 126) C dX11_findRays_124 rfl rfl ?_
          refine am_iload_n (q := 127) C dX11_findRays_126 rfl rfl ?_
          have hdr := dt_rg hK (p := q) (q := p) (by omega) (by omega)
          refine am_callV (As := [.int (iZ (q : Int)), .int (iZ (p : Int))]) (rest := [.int (iZ (cntF t (gtF t p) q : Int))]) C mb_X11_det im_X11_det se_X11_det ml_X11_222 cb_11 kk_191 (show 191 < 215 by decide) dX11_findRays_127 rfl (sp_X11_det hA1 hK (p := q) (q := p) (by omega) (by omega)) rfl rfl ⟨by decide, by decide⟩ ⟨Nat.le_refl _, Nat.le_refl _⟩ (Nat.le_of_ble_eq_true rfl) (am_rie ?_)
          refine am_ifZ_le (q := 133) (tgt := 137) C dX11_findRays_130 (by decide) rfl ⟨by omega, by omega⟩ (fun g3 => ?_) (fun g3 => ?_)
          · refine am_iconst (q := 138) (v := iZ 0) C dX11_findRays_137 rfl rfl ?_
            refine am_iaddZ (q := 139) C dX11_findRays_138 rfl ?_
            refine am_intE (y := (iZ ((cntF t (gtF t p) q + 0 : Nat) : Int))) (congrArg iZ (by omega)) ?_
            refine am_istore_n (q := 140) (L' := [some (.ref 191), some (.int (iZ (p : Int))), some (.int (iZ (fsN t p (pm t) : Int))), some (.int (iZ ((cntF t (gtF t p) q + 0 : Nat) : Int))), some (.int (iZ (q : Int))), some (.int (iZ (fsN t q q : Int))), none]) C dX11_findRays_139 rfl (by decide) rfl rfl ?_
            refine am_iincZ (q := 143) (L' := [some (.ref 191), some (.int (iZ (p : Int))), some (.int (iZ (fsN t p (pm t) : Int))), some (.int (iZ ((cntF t (gtF t p) q + 0 : Nat) : Int))), some (.int (iZ ((q + 1 : Nat) : Int))), some (.int (iZ (fsN t q q : Int))), none]) C dX11_findRays_140 rfl rfl (by omega) (by decide) rfl rfl ?_
            refine am_goto (q := 66) C dX11_findRays_143 (by decide) ?_
            refine am_wkA (L1 := [some (.ref 191), some (.int (iZ (p : Int))), some (.int (iZ (fsN t p (pm t) : Int))), some (.int (iZ ((cntF t (gtF t p) q + 0 : Nat) : Int))), some (.int (iZ ((q + 1 : Nat) : Int))), none, none]) ⟨rfl, ⟨rfl, ⟨rfl, ⟨rfl, ⟨rfl, trivial⟩⟩⟩⟩⟩ ?_
            have hfq := fsN_fst (t := t) (p := q) (k := q) (Nat.le_refl _)
            have e9 : cntF t (gtF t p) (q + 1) = cntF t (gtF t p) q + 0 := by
              rw [cntF_1]
              rw [if_neg (fun z => by
                have z1 := hfq.mpr z.1
                have z2 : 0 < dt (dP t q) (dP t p) := of_decide_eq_true z.2
                omega)]
            have h9 := ih p (q + 1) I1 hp (by omega) hF (by omega) hk9
            rw [e9] at h9
            exact h9
          · refine am_iconst (q := 134) (v := iZ 1) C dX11_findRays_133 rfl rfl ?_
            refine am_goto (q := 138) C dX11_findRays_134 (by decide) ?_
            refine am_iaddZ (q := 139) C dX11_findRays_138 rfl ?_
            refine am_intE (y := (iZ ((cntF t (gtF t p) q + 1 : Nat) : Int))) (congrArg iZ (by omega)) ?_
            refine am_istore_n (q := 140) (L' := [some (.ref 191), some (.int (iZ (p : Int))), some (.int (iZ (fsN t p (pm t) : Int))), some (.int (iZ ((cntF t (gtF t p) q + 1 : Nat) : Int))), some (.int (iZ (q : Int))), some (.int (iZ (fsN t q q : Int))), none]) C dX11_findRays_139 rfl (by decide) rfl rfl ?_
            refine am_iincZ (q := 143) (L' := [some (.ref 191), some (.int (iZ (p : Int))), some (.int (iZ (fsN t p (pm t) : Int))), some (.int (iZ ((cntF t (gtF t p) q + 1 : Nat) : Int))), some (.int (iZ ((q + 1 : Nat) : Int))), some (.int (iZ (fsN t q q : Int))), none]) C dX11_findRays_140 rfl rfl (by omega) (by decide) rfl rfl ?_
            refine am_goto (q := 66) C dX11_findRays_143 (by decide) ?_
            refine am_wkA (L1 := [some (.ref 191), some (.int (iZ (p : Int))), some (.int (iZ (fsN t p (pm t) : Int))), some (.int (iZ ((cntF t (gtF t p) q + 1 : Nat) : Int))), some (.int (iZ ((q + 1 : Nat) : Int))), none, none]) ⟨rfl, ⟨rfl, ⟨rfl, ⟨rfl, ⟨rfl, trivial⟩⟩⟩⟩⟩ ?_
            have hfq := fsN_fst (t := t) (p := q) (k := q) (Nat.le_refl _)
            have e9 : cntF t (gtF t p) (q + 1) = cntF t (gtF t p) q + 1 := by
              rw [cntF_1]
              rw [if_pos ⟨hfq.mp (by omega), decide_eq_true (by omega)⟩]
            have h9 := ih p (q + 1) I1 hp (by omega) hF (by omega) hk9
            rw [e9] at h9
            exact h9
  have p1 : ∀ (fuel : Nat) (p : Nat) (I1 : Nat → Nat → Int32), (p ≤ pm t) → ((∀ k, k ≠ 32 → I1 191 k = I 191 k) ∧ ∀ h, h ≠ 191 → h < 209 ∨ 211 < h → I1 h = I h) → (I1 191 32 = iZ (cntF t (fun _ => true) p : Int)) → (∀ q, q < p → fstP t q = true → I1 209 (rk t q) = iZ (ra (raysA t) (rk t q) : Int) ∧ I1 210 (rk t q) = iZ (rb (raysA t) (rk t q) : Int) ∧ I1 211 (rk t q) = iZ 0) → (pm t - p) < fuel → (∀ (I1 : Nat → Nat → Int32), ((∀ k, k ≠ 32 → I1 191 k = I 191 k) ∧ ∀ h, h ≠ 191 → h < 209 ∨ 211 < h → I1 h = I h) → (I1 191 32 = iZ ((raysA t).length : Int)) → (∀ r, r < (raysA t).length → I1 209 r = iZ (ra (raysA t) r : Int) ∧ I1 210 r = iZ (rb (raysA t) r : Int) ∧ I1 211 r = iZ 0) → am_A G mX11_findRays X (am_rm 2 0 0) 220 [some (.ref 191), none, none, none, none, none, none] [] (215, kK, kR, I1, J) 0 0) → am_A G mX11_findRays X (am_rm 2 0 0) 7 [some (.ref 191), some (.int (iZ (p : Int))), none, none, none, none, none] [] (215, kK, kR, I1, J) 0 0 := by
    intro fuel
    induction fuel with
    | zero => intro p I1 hp hF h32 hv hfu hk9; exact absurd hfu (Nat.not_lt_zero _)
    | succ fuel ih =>
      intro p I1 hp hF h32 hv hfu hk9
      refine am_iload_n (q := 8) C dX11_findRays_7 rfl rfl ?_
      refine am_aload_n (q := 9) C dX11_findRays_8 rfl rfl ?_
      refine am_getIe (q := 12) (v := (iZ (pm t : Int))) C fb_X11_86 dX11_findRays_9 rfl rfl kk_191 (show 191 < 215 by decide) ((hF.1 0 (by decide)).trans hA.1) ?_
      refine am_icmpZ_ge (q := 15) (tgt := 220) C dX11_findRays_12 (by decide) rfl ⟨by omega, by omega⟩ ⟨by omega, by omega⟩ (fun h1 => ?_) (fun h1 => ?_)
      · refine am_wkA (L1 := [some (.ref 191), none, none, none, none, none, none]) ⟨rfl, trivial⟩ ?_
        refine hk9 I1 hF ?_ (fun r hr => ?_)
        · rw [h32, rays_len hK, show p = pm t by omega]
        · obtain ⟨q, q1, q2, q3⟩ := ray_first hK hr
          rw [← q3]
          exact hv q (by omega) q2
      · refine am_iconst (q := 16) (v := iZ 1) C dX11_findRays_15 rfl rfl ?_
        refine am_istore_n (q := 17) (L' := [some (.ref 191), some (.int (iZ (p : Int))), some (.int (iZ 1)), none, none, none, none]) C dX11_findRays_16 rfl (by decide) rfl rfl ?_
        refine am_iconst (q := 18) (v := iZ 0) C dX11_findRays_17 rfl rfl ?_
        refine am_istore_n (q := 19) (L' := [some (.ref 191), some (.int (iZ (p : Int))), some (.int (iZ 1)), some (.int (iZ 0)), none, none, none]) C dX11_findRays_18 rfl (by decide) rfl rfl ?_
        refine am_iconst (q := 20) (v := iZ 0) C dX11_findRays_19 rfl rfl ?_
        refine am_istore (q := 22) (L' := [some (.ref 191), some (.int (iZ (p : Int))), some (.int (iZ 1)), some (.int (iZ 0)), some (.int (iZ 0)), none, none]) C dX11_findRays_20 rfl (by decide) rfl rfl ?_
        refine a1 7 p 0 I1 (by omega) (by omega) hF (by omega) ?_
        refine am_iconst (q := 64) (v := iZ 0) C dX11_findRays_63 rfl rfl ?_
        refine am_istore (q := 66) (L' := [some (.ref 191), some (.int (iZ (p : Int))), some (.int (iZ (fsN t p (pm t) : Int))), some (.int (iZ 0)), some (.int (iZ 0)), none, none]) C dX11_findRays_64 rfl (by decide) rfl rfl ?_
        refine b1 7 p 0 I1 (by omega) (by omega) hF (by omega) ?_
        have hfp := fsN_fst (t := t) (p := p) (k := pm t) (by omega)
        have hfl := fsN_le t p (pm t)
        obtain ⟨hrk, hrk2, hrk3, hrk4⟩ := ray_of hK (p := p) (by omega)
        have hrk9 : rk t p < (raysA t).length := hrk
        have hcl : cntF t (gtF t p) (pm t) = rk t p := hrk3
        rw [hcl]
        obtain ⟨hra, hrb⟩ := ray_ab hK (p := p) (by omega)
        have hgp := gcd_le (hK.2 p (by omega)).1 (hK.2 p (by omega)).2.1 (hK.2 p (by omega)).2.2.1
        have hpa := (hK.2 p (by omega)).1
        have hpb := (hK.2 p (by omega)).2.1
        have hlt := cntF_le t (fun _ => true) p
        refine am_iload_n (q := 147) C dX11_findRays_146 rfl rfl ?_
        refine am_ifZ_eq (q := 150) (tgt := 214) C dX11_findRays_147 (by decide) rfl ⟨by omega, by omega⟩ (fun h2 => ?_) (fun h2 => ?_)
        · refine am_iincZ (q := 217) (L' := [some (.ref 191), some (.int (iZ ((p + 1 : Nat) : Int))), some (.int (iZ (fsN t p (pm t) : Int))), some (.int (iZ (rk t p : Int))), none, none, none]) C dX11_findRays_214 rfl rfl (by omega) (by decide) rfl rfl ?_
          refine am_goto (q := 7) C dX11_findRays_217 (by decide) ?_
          refine am_wkA (L1 := [some (.ref 191), some (.int (iZ ((p + 1 : Nat) : Int))), none, none, none, none, none]) ⟨rfl, ⟨rfl, trivial⟩⟩ ?_
          refine am_wkA (L1 := [some (.ref 191), some (.int (iZ ((p + 1 : Nat) : Int))), none, none, none, none, none]) ⟨rfl, ⟨rfl, trivial⟩⟩ ?_
          refine ih (p + 1) I1 (by omega) hF ?_ (fun q hq hfq => ?_) (by omega) hk9
          · rw [cntF_1, if_neg (fun z => absurd (hfp.mpr z.1) (by omega))]; exact h32
          · by_cases e : q = p
            · rw [e] at hfq; exact absurd (hfp.mpr hfq) (by omega)
            · exact hv q (by omega) hfq
        · refine am_aload_n (q := 151) C dX11_findRays_150 rfl rfl ?_
          refine am_getR (q := 154) C fb_X11_15 dX11_findRays_151 rfl rfl kk_191 (show 191 < 215 by decide) kr_191_4 ?_
          refine am_iload_n (q := 155) C dX11_findRays_154 rfl rfl ?_
          refine am_ialoadZ (q := 156) p C dX11_findRays_155 rfl kk_192 (show 192 < 215 by decide) rfl (by omega) (by decide) ?_
          refine am_intE (y := (iZ (pa t p : Int))) (by rw [hF.2 192 (by decide) (by decide)]; exact (hA.2 p (by omega)).1) ?_
          refine am_aload_n (q := 157) C dX11_findRays_156 rfl rfl ?_
          refine am_getR (q := 160) C fb_X11_19 dX11_findRays_157 rfl rfl kk_191 (show 191 < 215 by decide) kr_191_5 ?_
          refine am_iload_n (q := 161) C dX11_findRays_160 rfl rfl ?_
          refine am_ialoadZ (q := 162) p C dX11_findRays_161 rfl kk_193 (show 193 < 215 by decide) rfl (by omega) (by decide) ?_
          refine am_intE (y := (iZ (pb t p : Int))) (by rw [hF.2 193 (by decide) (by decide)]; exact (hA.2 p (by omega)).2.1) ?_
          refine am_callS (q := 165) (As := [.int (iZ (pa t p : Int)), .int (iZ (pb t p : Int))]) (rest := []) C mb_X11_common st_X11_common ml_X11_225 dX11_findRays_162 rfl (sp_X11_common (a := pa t p) (b := pb t p) (by omega) (by omega)) rfl rfl ⟨by decide, by decide⟩ ⟨Nat.le_refl _, Nat.le_refl _⟩ (Nat.le_of_ble_eq_true rfl) (am_rie ?_)
          refine am_istore (q := 167) (L' := [some (.ref 191), some (.int (iZ (p : Int))), some (.int (iZ (fsN t p (pm t) : Int))), some (.int (iZ (rk t p : Int))), some (.int (iZ (Nat.gcd (pa t p) (pb t p) : Int))), none, none]) C dX11_findRays_165 rfl (by decide) rfl rfl ?_
          refine am_aload_n (q := 168) C dX11_findRays_167 rfl rfl ?_
          refine am_getR (q := 171) C fb_X11_68 dX11_findRays_168 rfl rfl kk_191 (show 191 < 215 by decide) kr_191_29 ?_
          refine am_iload_n (q := 172) C dX11_findRays_171 rfl rfl ?_
          refine am_aload_n (q := 173) C dX11_findRays_172 rfl rfl ?_
          refine am_getR (q := 176) C fb_X11_15 dX11_findRays_173 rfl rfl kk_191 (show 191 < 215 by decide) kr_191_4 ?_
          refine am_iload_n (q := 177) C dX11_findRays_176 rfl rfl ?_
          refine am_ialoadZ (q := 178) p C dX11_findRays_177 rfl kk_192 (show 192 < 215 by decide) rfl (by omega) (by decide) ?_
          refine am_intE (y := (iZ (pa t p : Int))) (by rw [hF.2 192 (by decide) (by decide)]; exact (hA.2 p (by omega)).1) ?_
          refine am_iload (q := 180) C dX11_findRays_178 rfl rfl ?_
          refine am_idivZ (q := 181) C dX11_findRays_180 rfl ⟨by omega, by omega⟩ ⟨by omega, by omega⟩ (by omega) (by omega) ?_
          refine am_intE (y := (iZ ((pa t p / Nat.gcd (pa t p) (pb t p) : Nat) : Int))) (congrArg iZ rfl) ?_
          refine am_iastoreZ (q := 182) (rk t p) C dX11_findRays_181 rfl kk_209 (show 209 < 215 by decide) rfl (by omega) (by decide) ?_
          refine am_aload_n (q := 183) C dX11_findRays_182 rfl rfl ?_
          refine am_getR (q := 186) C fb_X11_71 dX11_findRays_183 rfl rfl kk_191 (show 191 < 215 by decide) kr_191_30 ?_
          refine am_iload_n (q := 187) C dX11_findRays_186 rfl rfl ?_
          refine am_aload_n (q := 188) C dX11_findRays_187 rfl rfl ?_
          refine am_getR (q := 191) C fb_X11_19 dX11_findRays_188 rfl rfl kk_191 (show 191 < 215 by decide) kr_191_5 ?_
          refine am_iload_n (q := 192) C dX11_findRays_191 rfl rfl ?_
          refine am_ialoadZ (q := 193) p C dX11_findRays_192 rfl kk_193 (show 193 < 215 by decide) rfl (by omega) (by decide) ?_
          refine am_intE (y := (iZ (pb t p : Int))) (by rw [am_up_row _ _ _ _ (by decide), hF.2 193 (by decide) (by decide)]; exact (hA.2 p (by omega)).2.1) ?_
          refine am_iload (q := 195) C dX11_findRays_193 rfl rfl ?_
          refine am_idivZ (q := 196) C dX11_findRays_195 rfl ⟨by omega, by omega⟩ ⟨by omega, by omega⟩ (by omega) (by omega) ?_
          refine am_intE (y := (iZ ((pb t p / Nat.gcd (pa t p) (pb t p) : Nat) : Int))) (congrArg iZ rfl) ?_
          refine am_iastoreZ (q := 197) (rk t p) C dX11_findRays_196 rfl kk_210 (show 210 < 215 by decide) rfl (by omega) (by decide) ?_
          refine am_aload_n (q := 198) C dX11_findRays_197 rfl rfl ?_
          refine am_getR (q := 201) C fb_X11_74 dX11_findRays_198 rfl rfl kk_191 (show 191 < 215 by decide) kr_191_31 ?_
          refine am_iload_n (q := 202) C dX11_findRays_201 rfl rfl ?_
          refine am_iconst (q := 203) (v := iZ 0) C dX11_findRays_202 rfl rfl ?_
          refine am_iastoreZ (q := 204) (rk t p) C dX11_findRays_203 rfl kk_211 (show 211 < 215 by decide) rfl (by omega) (by decide) ?_
          refine am_aload_n (q := 205) C dX11_findRays_204 rfl rfl ?_
          refine am_dup (q := 206) C dX11_findRays_205 rfl rfl ?_
          refine am_getIe (q := 209) (v := (iZ (cntF t (fun _ => true) p : Int))) C fb_X11_219 dX11_findRays_206 rfl rfl kk_191 (show 191 < 215 by decide) (by rw [am_up_row _ _ _ _ (by decide), am_up_row _ _ _ _ (by decide), am_up_row _ _ _ _ (by decide)]; exact h32) ?_
          refine am_iconst (q := 210) (v := iZ 1) C dX11_findRays_209 rfl rfl ?_
          refine am_iaddZ (q := 211) C dX11_findRays_210 rfl ?_
          refine am_putI (q := 214) C fw_X11_219 dX11_findRays_211 rfl rfl kk_191 (show 191 < 215 by decide) ?_
          refine am_iincZ (q := 217) (L' := [some (.ref 191), some (.int (iZ ((p + 1 : Nat) : Int))), some (.int (iZ (fsN t p (pm t) : Int))), some (.int (iZ (rk t p : Int))), some (.int (iZ (Nat.gcd (pa t p) (pb t p) : Int))), none, none]) C dX11_findRays_214 rfl rfl (by omega) (by decide) rfl rfl ?_
          refine am_goto (q := 7) C dX11_findRays_217 (by decide) ?_
          refine am_wkA (L1 := [some (.ref 191), some (.int (iZ ((p + 1 : Nat) : Int))), none, none, none, none, none]) ⟨rfl, ⟨rfl, trivial⟩⟩ ?_
          refine am_wkA (L1 := [some (.ref 191), some (.int (iZ ((p + 1 : Nat) : Int))), none, none, none, none, none]) ⟨rfl, ⟨rfl, trivial⟩⟩ ?_
          refine ih (p + 1) _ (by omega) ⟨fun k hk => ?_, fun h h1 h2 => ?_⟩ ?_ (fun q hq hfq => ?_) (by omega) hk9
          · rw [am_up_ne _ _ _ _ (Or.inr hk), am_up_row _ _ _ _ (by decide), am_up_row _ _ _ _ (by decide), am_up_row _ _ _ _ (by decide)]; exact hF.1 k hk
          · rw [am_up_row _ _ _ _ h1, am_up_row _ _ _ _ (by omega), am_up_row _ _ _ _ (by omega), am_up_row _ _ _ _ (by omega)]; exact hF.2 h h1 h2
          · rw [am_up_eq, cntF_1, if_pos ⟨hfp.mp (by omega), rfl⟩]; exact congrArg iZ (by omega)
          · by_cases e : rk t q = rk t p
            · rw [e, am_up_row _ _ _ _ (by decide), am_up_row _ _ _ _ (by decide), am_up_row _ _ _ _ (by decide), am_up_eq, am_up_row _ _ _ _ (by decide), am_up_row _ _ _ _ (by decide), am_up_eq, am_up_row _ _ _ _ (by decide), am_up_eq, hra, hrb]
              exact ⟨rfl, rfl, rfl⟩
            · by_cases e2 : q = p
              · rw [e2] at e; exact absurd rfl e
              · obtain ⟨v1, v2, v3⟩ := hv q (by omega) hfq
                exact ⟨by rw [am_up_row _ _ _ _ (by decide), am_up_row _ _ _ _ (by decide), am_up_row _ _ _ _ (by decide), am_up_ne _ _ _ _ (Or.inr e)]; exact v1, by rw [am_up_row _ _ _ _ (by decide), am_up_row _ _ _ _ (by decide), am_up_ne _ _ _ _ (Or.inr e), am_up_row _ _ _ _ (by decide)]; exact v2, by rw [am_up_row _ _ _ _ (by decide), am_up_ne _ _ _ _ (Or.inr e), am_up_row _ _ _ _ (by decide), am_up_row _ _ _ _ (by decide)]; exact v3⟩
  have hlb : ∀ k, k < (raysA t).length → ra (raysA t) k ≤ 4 ∧ rb (raysA t) k ≤ 4 := fun k hk => ray_le hK hk
  have m1 : ∀ (fuel : Nat) (p r : Nat) (I1 : Nat → Nat → Int32), (p < pm t) → (r ≤ (raysA t).length) → ((∀ k, k ≠ 32 → I1 191 k = I 191 k) ∧ ∀ h, h ≠ 191 → h < 209 ∨ 211 < h → I1 h = I h) → (I1 191 32 = iZ ((raysA t).length : Int)) → (∀ x, x < (raysA t).length → I1 209 x = iZ (ra (raysA t) x : Int) ∧ I1 210 x = iZ (rb (raysA t) x : Int) ∧ I1 211 x = iZ (memP t (raysA t) x (if x < r then p + 1 else p) : Int)) → ((raysA t).length - r) < fuel → (∀ (I1 : Nat → Nat → Int32), ((∀ k, k ≠ 32 → I1 191 k = I 191 k) ∧ ∀ h, h ≠ 191 → h < 209 ∨ 211 < h → I1 h = I h) → (I1 191 32 = iZ ((raysA t).length : Int)) → (∀ x, x < (raysA t).length → I1 209 x = iZ (ra (raysA t) x : Int) ∧ I1 210 x = iZ (rb (raysA t) x : Int) ∧ I1 211 x = iZ (memP t (raysA t) x (p + 1) : Int)) → am_A G mX11_findRays X (am_rm 2 0 0) 289 [some (.ref 191), some (.int (iZ (p : Int))), none, none, none, none, none] [] (215, kK, kR, I1, J) 0 0) → am_A G mX11_findRays X (am_rm 2 0 0) 232 [some (.ref 191), some (.int (iZ (p : Int))), some (.int (iZ (r : Int))), none, none, none, none] [] (215, kK, kR, I1, J) 0 0 := by
    intro fuel
    induction fuel with
    | zero => intro p r I1 hp hr hF h32 hv hfu hk9; exact absurd hfu (Nat.not_lt_zero _)
    | succ fuel ih =>
      intro p r I1 hp hr hF h32 hv hfu hk9
      refine am_iload_n (q := 233) C dX11_findRays_232 rfl rfl ?_
      refine am_aload_n (q := 234) C dX11_findRays_233 rfl rfl ?_
      refine am_getIe (q := 237) (v := (iZ ((raysA t).length : Int))) C fb_X11_219 dX11_findRays_234 rfl rfl kk_191 (show 191 < 215 by decide) h32 ?_
      refine am_icmpZ_ge (q := 240) (tgt := 289) C dX11_findRays_237 (by decide) rfl ⟨by omega, by omega⟩ ⟨by omega, by omega⟩ (fun u1 => ?_) (fun u1 => ?_)
      · refine am_wkA (L1 := [some (.ref 191), some (.int (iZ (p : Int))), none, none, none, none, none]) ⟨rfl, ⟨rfl, trivial⟩⟩ ?_
        refine hk9 I1 hF h32 (fun x hx => ?_)
        obtain ⟨v1, v2, v3⟩ := hv x hx
        exact ⟨v1, v2, by rw [v3, if_pos (by omega)]⟩
      · have hr9 : r < (raysA t).length := by omega
        have hms := mem_step hK hp hr9
        have hpr1 := pr44 (hK.2 p hp).1 (hlb r hr9).2
        have hpr2 := pr44 (hK.2 p hp).2.1 (hlb r hr9).1
        have f1 : (pa t p : Int) * (rb (raysA t) r : Int) = ((pa t p * rb (raysA t) r : Nat) : Int) := by simp
        have f2 : (pb t p : Int) * (ra (raysA t) r : Int) = ((pb t p * ra (raysA t) r : Nat) : Int) := by simp
        have hme := memP_le t (raysA t) r p
        refine am_aload_n (q := 241) C dX11_findRays_240 rfl rfl ?_
        refine am_getR (q := 244) C fb_X11_74 dX11_findRays_241 rfl rfl kk_191 (show 191 < 215 by decide) kr_191_31 ?_
        refine am_iload_n (q := 245) C dX11_findRays_244 rfl rfl ?_
        refine am_dup2 (q := 246) C dX11_findRays_245 rfl rfl rfl ?_
        refine am_ialoadZ (q := 247) r C dX11_findRays_246 rfl kk_211 (show 211 < 215 by decide) rfl (by omega) (by decide) ?_
        refine am_intE (y := (iZ (memP t (raysA t) r p : Int))) (by rw [(hv r hr9).2.2, if_neg (Nat.lt_irrefl _)]) ?_
        refine am_aload_n (q := 248) C dX11_findRays_247 rfl rfl ?_
        refine am_getR (q := 251) C fb_X11_15 dX11_findRays_248 rfl rfl kk_191 (show 191 < 215 by decide) kr_191_4 ?_
        refine am_iload_n (q := 252) C dX11_findRays_251 rfl rfl ?_
        refine am_ialoadZ (q := 253) p C dX11_findRays_252 rfl kk_192 (show 192 < 215 by decide) rfl (by omega) (by decide) ?_
        refine am_intE (y := (iZ (pa t p : Int))) (by rw [hF.2 192 (by decide) (by decide)]; exact (hA.2 p (by omega)).1) ?_
        refine am_aload_n (q := 254) C dX11_findRays_253 rfl rfl ?_
        refine am_getR (q := 257) C fb_X11_71 dX11_findRays_254 rfl rfl kk_191 (show 191 < 215 by decide) kr_191_30 ?_
        refine am_iload_n (q := 258) C dX11_findRays_257 rfl rfl ?_
        refine am_ialoadZ (q := 259) r C dX11_findRays_258 rfl kk_210 (show 210 < 215 by decide) rfl (by omega) (by decide) ?_
        refine am_intE (y := (iZ (rb (raysA t) r : Int))) (hv r hr9).2.1 ?_
        refine am_imulZ (q := 260) C dX11_findRays_259 rfl ?_
        refine am_aload_n (q := 261) C dX11_findRays_260 rfl rfl ?_
        refine am_getR (q := 264) C fb_X11_19 dX11_findRays_261 rfl rfl kk_191 (show 191 < 215 by decide) kr_191_5 ?_
        refine am_iload_n (q := 265) C dX11_findRays_264 rfl rfl ?_
        refine am_ialoadZ (q := 266) p C dX11_findRays_265 rfl kk_193 (show 193 < 215 by decide) rfl (by omega) (by decide) ?_
        refine am_intE (y := (iZ (pb t p : Int))) (by rw [hF.2 193 (by decide) (by decide)]; exact (hA.2 p (by omega)).2.1) ?_
        refine am_aload_n (q := 267) C dX11_findRays_266 rfl rfl ?_
        refine am_getR (q := 270) C fb_X11_68 dX11_findRays_267 rfl rfl kk_191 (show 191 < 215 by decide) kr_191_29 ?_
        refine am_iload_n (q := 271) C dX11_findRays_270 rfl rfl ?_
        refine am_ialoadZ (q := 272) r C dX11_findRays_271 rfl kk_209 (show 209 < 215 by decide) rfl (by omega) (by decide) ?_
        refine am_intE (y := (iZ (ra (raysA t) r : Int))) (hv r hr9).1 ?_
        refine am_imulZ (q := 273) C dX11_findRays_272 rfl ?_
        refine am_icmpZ_ne (q := 276) (tgt := 280) C dX11_findRays_273 (by decide) rfl ⟨by omega, by omega⟩ ⟨by omega, by omega⟩ (fun u2 => ?_) (fun u2 => ?_)
        · refine am_iconst (q := 281) (v := iZ 0) C dX11_findRays_280 rfl rfl ?_
          refine am_iaddZ (q := 282) C dX11_findRays_281 rfl ?_
          have e9 : memP t (raysA t) r (p + 1) = memP t (raysA t) r p + 0 := by rw [mem_1]; rw [if_neg (fun z => absurd (hms.mp z) (by omega))]
          refine am_intE (y := (iZ ((memP t (raysA t) r (p + 1) : Nat) : Int))) (congrArg iZ (by omega)) ?_
          refine am_iastoreZ (q := 283) r C dX11_findRays_282 rfl kk_211 (show 211 < 215 by decide) rfl (by omega) (by decide) ?_
          refine am_iincZ (q := 286) (L' := [some (.ref 191), some (.int (iZ (p : Int))), some (.int (iZ ((r + 1 : Nat) : Int))), none, none, none, none]) C dX11_findRays_283 rfl rfl (by omega) (by decide) rfl rfl ?_
          refine am_goto (q := 232) C dX11_findRays_286 (by decide) ?_
          refine ih p (r + 1) _ hp (by omega) ⟨fun k hk => ?_, fun h h1 h2 => ?_⟩ ?_ (fun x hx => ?_) (by omega) hk9
          · rw [am_up_row _ _ _ _ (by decide)]; exact hF.1 k hk
          · rw [am_up_row _ _ _ _ (by omega)]; exact hF.2 h h1 h2
          · rw [am_up_row _ _ _ _ (by decide)]; exact h32
          · obtain ⟨v1, v2, v3⟩ := hv x hx
            refine ⟨by rw [am_up_row _ _ _ _ (by decide)]; exact v1, by rw [am_up_row _ _ _ _ (by decide)]; exact v2, ?_⟩
            by_cases e : x = r
            · subst e; rw [am_up_eq, if_pos (by omega)]
            · rw [am_up_ne _ _ _ _ (Or.inr e), v3]
              by_cases e2 : x < r
              · rw [if_pos e2, if_pos (by omega)]
              · rw [if_neg e2, if_neg (by omega)]
        · refine am_iconst (q := 277) (v := iZ 1) C dX11_findRays_276 rfl rfl ?_
          refine am_goto (q := 281) C dX11_findRays_277 (by decide) ?_
          refine am_iaddZ (q := 282) C dX11_findRays_281 rfl ?_
          have e9 : memP t (raysA t) r (p + 1) = memP t (raysA t) r p + 1 := by rw [mem_1]; rw [if_pos (hms.mpr (by omega))]
          refine am_intE (y := (iZ ((memP t (raysA t) r (p + 1) : Nat) : Int))) (congrArg iZ (by omega)) ?_
          refine am_iastoreZ (q := 283) r C dX11_findRays_282 rfl kk_211 (show 211 < 215 by decide) rfl (by omega) (by decide) ?_
          refine am_iincZ (q := 286) (L' := [some (.ref 191), some (.int (iZ (p : Int))), some (.int (iZ ((r + 1 : Nat) : Int))), none, none, none, none]) C dX11_findRays_283 rfl rfl (by omega) (by decide) rfl rfl ?_
          refine am_goto (q := 232) C dX11_findRays_286 (by decide) ?_
          refine ih p (r + 1) _ hp (by omega) ⟨fun k hk => ?_, fun h h1 h2 => ?_⟩ ?_ (fun x hx => ?_) (by omega) hk9
          · rw [am_up_row _ _ _ _ (by decide)]; exact hF.1 k hk
          · rw [am_up_row _ _ _ _ (by omega)]; exact hF.2 h h1 h2
          · rw [am_up_row _ _ _ _ (by decide)]; exact h32
          · obtain ⟨v1, v2, v3⟩ := hv x hx
            refine ⟨by rw [am_up_row _ _ _ _ (by decide)]; exact v1, by rw [am_up_row _ _ _ _ (by decide)]; exact v2, ?_⟩
            by_cases e : x = r
            · subst e; rw [am_up_eq, if_pos (by omega)]
            · rw [am_up_ne _ _ _ _ (Or.inr e), v3]
              by_cases e2 : x < r
              · rw [if_pos e2, if_pos (by omega)]
              · rw [if_neg e2, if_neg (by omega)]
  have n1 : ∀ (fuel : Nat) (p : Nat) (I1 : Nat → Nat → Int32), (p ≤ pm t) → ((∀ k, k ≠ 32 → I1 191 k = I 191 k) ∧ ∀ h, h ≠ 191 → h < 209 ∨ 211 < h → I1 h = I h) → (I1 191 32 = iZ ((raysA t).length : Int)) → (∀ x, x < (raysA t).length → I1 209 x = iZ (ra (raysA t) x : Int) ∧ I1 210 x = iZ (rb (raysA t) x : Int) ∧ I1 211 x = iZ (memP t (raysA t) x (p) : Int)) → (pm t - p) < fuel → am_A G mX11_findRays X (am_rm 2 0 0) 222 [some (.ref 191), some (.int (iZ (p : Int))), none, none, none, none, none] [] (215, kK, kR, I1, J) 0 0 := by
    intro fuel
    induction fuel with
    | zero => intro p I1 hp hF h32 hv hf; exact absurd hf (Nat.not_lt_zero _)
    | succ fuel ih =>
      intro p I1 hp hF h32 hv hf
      refine am_iload_n (q := 223) C dX11_findRays_222 rfl rfl ?_
      refine am_aload_n (q := 224) C dX11_findRays_223 rfl rfl ?_
      refine am_getIe (q := 227) (v := (iZ (pm t : Int))) C fb_X11_86 dX11_findRays_224 rfl rfl kk_191 (show 191 < 215 by decide) ((hF.1 0 (by decide)).trans hA.1) ?_
      refine am_icmpZ_ge (q := 230) (tgt := 295) C dX11_findRays_227 (by decide) rfl ⟨by omega, by omega⟩ ⟨by omega, by omega⟩ (fun v1 => ?_) (fun v1 => ?_)
      · refine am_vret C T dX11_findRays_295 rfl (Nat.le_refl _) (Nat.le_refl _) ⟨rfl, ?_⟩
        exact ⟨I1, rfl, ⟨h32, fun x hx => by rw [show pm t = p by omega]; exact hv x hx⟩, fun k hk => hF.1 k (by omega), fun h h1 h2 => ⟨hF.2 h h1 (by omega), rfl⟩⟩
      · refine am_iconst (q := 231) (v := iZ 0) C dX11_findRays_230 rfl rfl ?_
        refine am_istore_n (q := 232) (L' := [some (.ref 191), some (.int (iZ (p : Int))), some (.int (iZ 0)), none, none, none, none]) C dX11_findRays_231 rfl (by decide) rfl rfl ?_
        refine m1 7 p 0 I1 (by omega) (by omega) hF h32 (fun x hx => by rw [if_neg (Nat.not_lt_zero _)]; exact hv x hx) (by omega) (fun I1 hF h32 hv => ?_)
        refine am_iincZ (q := 292) (L' := [some (.ref 191), some (.int (iZ ((p + 1 : Nat) : Int))), none, none, none, none, none]) C dX11_findRays_289 rfl rfl (by omega) (by decide) rfl rfl ?_
        refine am_goto (q := 222) C dX11_findRays_292 (by decide) ?_
        exact ih (p + 1) I1 (by omega) hF h32 hv (by omega)
  refine am_aload_n (q := 1) C dX11_findRays_0 rfl rfl ?_
  refine am_iconst (q := 2) (v := iZ 0) C dX11_findRays_1 rfl rfl ?_
  refine am_putI (q := 5) C fw_X11_219 dX11_findRays_2 rfl rfl kk_191 (show 191 < 215 by decide) ?_
  refine am_iconst (q := 6) (v := iZ 0) C dX11_findRays_5 rfl rfl ?_
  refine am_istore_n (q := 7) (L' := [some (.ref 191), some (.int (iZ 0)), none, none, none, none, none]) C dX11_findRays_6 rfl (by decide) rfl rfl ?_
  refine p1 7 0 _ (Nat.zero_le _) ⟨fun k hk => am_up_ne _ _ _ _ (Or.inr hk), fun h h1 _ => am_up_row _ _ _ _ h1⟩ (am_up_eq _ _ _ _) (fun q hq => absurd hq (Nat.not_lt_zero _)) (by omega) (fun I1 hF h32 hv => ?_)
  refine am_iconst (q := 221) (v := iZ 0) C dX11_findRays_220 rfl rfl ?_
  refine am_istore_n (q := 222) (L' := [some (.ref 191), some (.int (iZ 0)), none, none, none, none, none]) C dX11_findRays_221 rfl (by decide) rfl rfl ?_
  exact n1 (pm t + 1) 0 I1 (Nat.zero_le _) hF h32 hv (by omega)
