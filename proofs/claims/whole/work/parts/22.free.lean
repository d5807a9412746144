variable {G : am_G} {I : Nat → Nat → Int32} {J : Nat → Nat → Int64}
def am_wk : List (Option Value) → List (Option Value) → Prop
  | [], _ => True
  | none :: l, _ :: l' => am_wk l l'
  | some v :: l, x :: l' => x = some v ∧ am_wk l l'
  | _ :: _, [] => False
theorem am_wk_at : ∀ (l l' : List (Option Value)), am_wk l l' → ∀ (j : Nat) (v : Value), l[j]? = some (some v) → l'[j]? = some (some v)
  | [], _, _, j, v, h => by simp at h
  | none :: l, [], h, _, _, _ => by simp [am_wk] at h
  | some _ :: l, [], h, _, _, _ => by simp [am_wk] at h
  | none :: l, x :: l', h, 0, v, g => by simp at g
  | none :: l, x :: l', h, j + 1, v, g => by
    simp only [List.getElem?_cons_succ] at g ⊢
    exact am_wk_at l l' h j v g
  | some u :: l, x :: l', h, 0, v, g => by
    simp only [List.getElem?_cons_zero] at g ⊢
    rw [← g, h.1]
  | some u :: l, x :: l', h, j + 1, v, g => by
    simp only [List.getElem?_cons_succ] at g ⊢
    exact am_wk_at l l' h.2 j v g
/-- what is known of the locals may be forgotten -/
theorem am_wkA {M : am_M} {X : am_X} {R : Room} {pc c n : Nat} {L1 L : List (Option Value)} {st : List Value} {w : am_W} (h : am_wk L1 L) (k : am_A G M X R pc L1 st w c n) : am_A G M X R pc L st w c n := by
  intro H locs ls hH hL hS
  exact k H locs ls hH ⟨hL.1, hL.2.1, fun j v g => hL.2.2 j v (am_wk_at _ _ h j v g)⟩ hS
/-! free ways: a part is taken again and again -/
def geo (f : Nat → Nat → Int64) (a b : Nat) : Nat → Nat → Nat → Int64
  | 0, x, y => f x y
  | n + 1, x, y => f x y + if a ≤ x ∧ b ≤ y then geo f a b n (x - a) (y - b) else 0
theorem geo_more (f : Nat → Nat → Int64) (a b : Nat) : ∀ (n x y : Nat), (1 ≤ a ∧ x ≤ n) ∨ (1 ≤ b ∧ y ≤ n) → geo f a b n x y = geo f a b (n + 1) x y
  | 0, x, y, h => by
    show f x y = f x y + if _ then _ else _
    rw [if_neg (by omega)]; exact (Int64.add_zero _).symm
  | n + 1, x, y, h => by
    show (f x y + if _ then geo f a b n _ _ else 0) = f x y + if _ then geo f a b (n + 1) _ _ else 0
    by_cases e : a ≤ x ∧ b ≤ y
    · rw [if_pos e, if_pos e, geo_more f a b n (x - a) (y - b) (by omega)]
    · rw [if_neg e, if_neg e]
theorem geo_up (f : Nat → Nat → Int64) (a b n x y : Nat) (h : (1 ≤ a ∧ x ≤ n) ∨ (1 ≤ b ∧ y ≤ n)) : ∀ k, geo f a b (n + k) x y = geo f a b n x y
  | 0 => rfl
  | k + 1 => by rw [← geo_up f a b n x y h k]; exact (geo_more f a b (n + k) x y (by omega)).symm
theorem geo_eq (f : Nat → Nat → Int64) (a b : Nat) {n m x y : Nat} (h : (1 ≤ a ∧ x ≤ n) ∨ (1 ≤ b ∧ y ≤ n)) (h2 : (1 ≤ a ∧ x ≤ m) ∨ (1 ≤ b ∧ y ≤ m)) : geo f a b n x y = geo f a b m x y := by
  rcases Nat.le_total n m with g | g
  · have := geo_up f a b n x y h (m - n)
    rw [← this, show n + (m - n) = m by omega]
  · have := geo_up f a b m x y h2 (n - m)
    rw [← this, show m + (n - m) = n by omega]
def geoF (f : Nat → Nat → Int64) (a b x y : Nat) : Int64 := geo f a b (x + y) x y
theorem geoF_step (f : Nat → Nat → Int64) {a b : Nat} (h : 1 ≤ a + b) (x y : Nat) : geoF f a b x y = f x y + if a ≤ x ∧ b ≤ y then geoF f a b (x - a) (y - b) else 0 := by
  unfold geoF
  rw [geo_eq f a b (n := x + y) (m := x + y + 1) (by omega) (by omega)]
  show (f x y + if _ then _ else _) = _
  by_cases e : a ≤ x ∧ b ≤ y
  · rw [if_pos e, if_pos e, geo_eq f a b (n := x + y) (m := x - a + (y - b)) (by omega) (by omega)]
  · rw [if_neg e, if_neg e]
theorem geoF_in (f : Nat → Nat → Int64) {a b : Nat} (h : 1 ≤ a + b) {x y : Nat} (h1 : a ≤ x) (h2 : b ≤ y) : geoF f a b x y = f x y + geoF f a b (x - a) (y - b) := by rw [geoF_step f h, if_pos ⟨h1, h2⟩]
theorem geoF_out (f : Nat → Nat → Int64) {a b : Nat} (h : 1 ≤ a + b) {x y : Nat} (h1 : x < a ∨ y < b) : geoF f a b x y = f x y := by
  rw [geoF_step f h, if_neg (by omega)]; exact Int64.add_zero _
def oneAt (x y : Nat) : Int64 := if x = 0 ∧ y = 0 then 1 else 0
/-- the free ways of the first p parts -/
def Fr (t : PT) : Nat → Nat → Nat → Int64
  | 0 => oneAt
  | p + 1 => geoF (Fr t p) (pa t p) (pb t p)
/-- the table as it lies: known as far as kx, ky -/
def knF (I : Nat → Nat → Int32) (kx ky : Int) : Prop := I 174 1 = iZ kx ∧ I 174 2 = iZ ky ∧ -1 ≤ kx ∧ kx ≤ 143 ∧ -1 ≤ ky ∧ ky ≤ 143
def tabF (J : Nat → Nat → Int64) (kx ky : Int) (f : Nat → Nat → Int64) : Prop := ∀ x y : Nat, (x : Int) ≤ kx → (y : Int) ≤ ky → J 175 (x * 144 + y) = f x y
def freeOK (I : Nat → Nat → Int32) (J : Nat → Nat → Int64) (t : PT) : Prop := ∃ kx ky : Int, knF I kx ky ∧ tabF J kx ky (Fr t (pm t))
theorem knF.on {I I' : Nat → Nat → Int32} {kx ky : Int} (h : knF I kx ky) (hI : I' 174 = I 174) : knF I' kx ky := by unfold knF; rw [hI]; exact h
theorem freeOK.on {I I' : Nat → Nat → Int32} {J J' : Nat → Nat → Int64} {t : PT} (h : freeOK I J t) (hI : I' 174 = I 174) (hJ : J' 175 = J 175) : freeOK I' J' t := by
  obtain ⟨kx, ky, h1, h2⟩ := h
  exact ⟨kx, ky, h1.on hI, fun x y hx hy => by rw [hJ]; exact h2 x y hx hy⟩
set_option maxRecDepth 4000 in
theorem sp_X4_at {kx ky : Int} (hK : knF I kx ky) {x y : Int} (hx : rg x) (hy : rg y) : am_S G mX4_at 1 0 0 [.ref 174, .int (iZ x), .int (iZ y)] (215, kK, kR, I, J) (am_fl (if 0 ≤ x ∧ x ≤ kx ∧ 0 ≤ y ∧ y ≤ ky then J 175 (x.toNat * 144 + y.toNat) else 0) (215, kK, kR, I, J)) := by
  obtain ⟨k1, k2, k3, k4, k5, k6⟩ := hK
  refine am_spec (plainFor_of_name (by decide +kernel)) (Nat.le_of_ble_eq_true rfl) (L := [some (.ref 174), some (.int (iZ x)), some (.int (iZ y)), none]) rfl (fun X C T => ?_)
  refine am_iload_n (q := 1) C dX4_at_0 rfl rfl ?_
  refine am_ifZ_lt (q := 4) (tgt := 42) C dX4_at_1 (by decide) rfl hx (fun h1 => ?_) (fun h1 => ?_)
  · refine am_iconst (q := 43) (v := iZ 0) C dX4_at_42 rfl rfl ?_
    refine am_istore_n (q := 44) (L' := [some (.ref 174), some (.int (iZ x)), some (.int (iZ y)), some (.int (iZ 0))]) C dX4_at_43 rfl (by decide) rfl rfl ?_
    refine am_iload_n (q := 45) C dX4_at_44 rfl rfl ?_
    refine am_ifZ_eq (q := 48) (tgt := 63) C dX4_at_45 (by decide) rfl ⟨by omega, by omega⟩ (fun h2 => ?_) (fun h2 => ?_)
    · refine am_lconst (q := 64) (v := lN 0) C dX4_at_63 rfl rfl ?_
      refine am_lret C T dX4_at_64 rfl (Nat.le_refl _) (Nat.le_refl _) ⟨_, rfl, ?_⟩
      refine ⟨?_, rfl⟩
      rw [if_neg (by omega)]; rfl
    · exact absurd h2 (by decide)
  · refine am_iload_n (q := 5) C dX4_at_4 rfl rfl ?_
    refine am_aload_n (q := 6) C dX4_at_5 rfl rfl ?_
    refine am_getIe (q := 9) (v := (iZ kx)) C fb_X4_15 dX4_at_6 rfl rfl kk_174 (show 174 < 215 by decide) k1 ?_
    refine am_icmpZ_gt (q := 12) (tgt := 42) C dX4_at_9 (by decide) rfl hx ⟨by omega, by omega⟩ (fun h3 => ?_) (fun h3 => ?_)
    · refine am_iconst (q := 43) (v := iZ 0) C dX4_at_42 rfl rfl ?_
      refine am_istore_n (q := 44) (L' := [some (.ref 174), some (.int (iZ x)), some (.int (iZ y)), some (.int (iZ 0))]) C dX4_at_43 rfl (by decide) rfl rfl ?_
      refine am_iload_n (q := 45) C dX4_at_44 rfl rfl ?_
      refine am_ifZ_eq (q := 48) (tgt := 63) C dX4_at_45 (by decide) rfl ⟨by omega, by omega⟩ (fun h4 => ?_) (fun h4 => ?_)
      · refine am_lconst (q := 64) (v := lN 0) C dX4_at_63 rfl rfl ?_
        refine am_lret C T dX4_at_64 rfl (Nat.le_refl _) (Nat.le_refl _) ⟨_, rfl, ?_⟩
        refine ⟨?_, rfl⟩
        rw [if_neg (by omega)]; rfl
      · exact absurd h4 (by decide)
    · refine am_iload_n (q := 13) C dX4_at_12 rfl rfl ?_
      refine am_sipush (q := 16) (v := iZ 144) C dX4_at_13 rfl rfl ?_
      refine am_icmpZ_ge (q := 19) (tgt := 42) C dX4_at_16 (by decide) rfl hx ⟨by omega, by omega⟩ (fun h5 => ?_) (fun h5 => ?_)
      · refine am_iconst (q := 43) (v := iZ 0) C dX4_at_42 rfl rfl ?_
        refine am_istore_n (q := 44) (L' := [some (.ref 174), some (.int (iZ x)), some (.int (iZ y)), some (.int (iZ 0))]) C dX4_at_43 rfl (by decide) rfl rfl ?_
        refine am_iload_n (q := 45) C dX4_at_44 rfl rfl ?_
        refine am_ifZ_eq (q := 48) (tgt := 63) C dX4_at_45 (by decide) rfl ⟨by omega, by omega⟩ (fun h6 => ?_) (fun h6 => ?_)
        · refine am_lconst (q := 64) (v := lN 0) C dX4_at_63 rfl rfl ?_
          refine am_lret C T dX4_at_64 rfl (Nat.le_refl _) (Nat.le_refl _) ⟨_, rfl, ?_⟩
          refine ⟨?_, rfl⟩
          rw [if_neg (by omega)]; rfl
        · exact absurd h6 (by decide)
      · refine am_iload_n (q := 20) C dX4_at_19 rfl rfl ?_
        refine am_ifZ_lt (q := 23) (tgt := 42) C dX4_at_20 (by decide) rfl hy (fun h7 => ?_) (fun h7 => ?_)
        · refine am_iconst (q := 43) (v := iZ 0) C dX4_at_42 rfl rfl ?_
          refine am_istore_n (q := 44) (L' := [some (.ref 174), some (.int (iZ x)), some (.int (iZ y)), some (.int (iZ 0))]) C dX4_at_43 rfl (by decide) rfl rfl ?_
          refine am_iload_n (q := 45) C dX4_at_44 rfl rfl ?_
          refine am_ifZ_eq (q := 48) (tgt := 63) C dX4_at_45 (by decide) rfl ⟨by omega, by omega⟩ (fun h8 => ?_) (fun h8 => ?_)
          · refine am_lconst (q := 64) (v := lN 0) C dX4_at_63 rfl rfl ?_
            refine am_lret C T dX4_at_64 rfl (Nat.le_refl _) (Nat.le_refl _) ⟨_, rfl, ?_⟩
            refine ⟨?_, rfl⟩
            rw [if_neg (by omega)]; rfl
          · exact absurd h8 (by decide)
        · refine am_iload_n (q := 24) C dX4_at_23 rfl rfl ?_
          refine am_aload_n (q := 25) C dX4_at_24 rfl rfl ?_
          refine am_getIe (q := 28) (v := (iZ ky)) C fb_X4_19 dX4_at_25 rfl rfl kk_174 (show 174 < 215 by decide) k2 ?_
          refine am_icmpZ_gt (q := 31) (tgt := 42) C dX4_at_28 (by decide) rfl hy ⟨by omega, by omega⟩ (fun h9 => ?_) (fun h9 => ?_)
          · refine am_iconst (q := 43) (v := iZ 0) C dX4_at_42 rfl rfl ?_
            refine am_istore_n (q := 44) (L' := [some (.ref 174), some (.int (iZ x)), some (.int (iZ y)), some (.int (iZ 0))]) C dX4_at_43 rfl (by decide) rfl rfl ?_
            refine am_iload_n (q := 45) C dX4_at_44 rfl rfl ?_
            refine am_ifZ_eq (q := 48) (tgt := 63) C dX4_at_45 (by decide) rfl ⟨by omega, by omega⟩ (fun h10 => ?_) (fun h10 => ?_)
            · refine am_lconst (q := 64) (v := lN 0) C dX4_at_63 rfl rfl ?_
              refine am_lret C T dX4_at_64 rfl (Nat.le_refl _) (Nat.le_refl _) ⟨_, rfl, ?_⟩
              refine ⟨?_, rfl⟩
              rw [if_neg (by omega)]; rfl
            · exact absurd h10 (by decide)
          · refine am_iload_n (q := 32) C dX4_at_31 rfl rfl ?_
            refine am_sipush (q := 35) (v := iZ 144) C dX4_at_32 rfl rfl ?_
            refine am_icmpZ_ge (q := 38) (tgt := 42) C dX4_at_35 (by decide) rfl hy ⟨by omega, by omega⟩ (fun h11 => ?_) (fun h11 => ?_)
            · refine am_iconst (q := 43) (v := iZ 0) C dX4_at_42 rfl rfl ?_
              refine am_istore_n (q := 44) (L' := [some (.ref 174), some (.int (iZ x)), some (.int (iZ y)), some (.int (iZ 0))]) C dX4_at_43 rfl (by decide) rfl rfl ?_
              refine am_iload_n (q := 45) C dX4_at_44 rfl rfl ?_
              refine am_ifZ_eq (q := 48) (tgt := 63) C dX4_at_45 (by decide) rfl ⟨by omega, by omega⟩ (fun h12 => ?_) (fun h12 => ?_)
              · refine am_lconst (q := 64) (v := lN 0) C dX4_at_63 rfl rfl ?_
                refine am_lret C T dX4_at_64 rfl (Nat.le_refl _) (Nat.le_refl _) ⟨_, rfl, ?_⟩
                refine ⟨?_, rfl⟩
                rw [if_neg (by omega)]; rfl
              · exact absurd h12 (by decide)
            · refine am_iconst (q := 39) (v := iZ 1) C dX4_at_38 rfl rfl ?_
              refine am_goto (q := 43) C dX4_at_39 (by decide) ?_
              refine am_istore_n (q := 44) (L' := [some (.ref 174), some (.int (iZ x)), some (.int (iZ y)), some (.int (iZ 1))]) C dX4_at_43 rfl (by decide) rfl rfl ?_
              refine am_iload_n (q := 45) C dX4_at_44 rfl rfl ?_
              refine am_ifZ_eq (q := 48) (tgt := 63) C dX4_at_45 (by decide) rfl ⟨by omega, by omega⟩ (fun h13 => ?_) (fun h13 => ?_)
              · exact absurd h13 (by decide)
              · refine am_aload_n (q := 49) C dX4_at_48 rfl rfl ?_
                refine am_getR (q := 52) C fb_X4_11 dX4_at_49 rfl rfl kk_174 (show 174 < 215 by decide) kr_174_0 ?_
                refine am_iload_n (q := 53) C dX4_at_52 rfl rfl ?_
                refine am_sipush (q := 56) (v := iZ 144) C dX4_at_53 rfl rfl ?_
                refine am_imulZ (q := 57) C dX4_at_56 rfl ?_
                refine am_iload_n (q := 58) C dX4_at_57 rfl rfl ?_
                refine am_iaddZ (q := 59) C dX4_at_58 rfl ?_
                refine am_laloadZ (q := 60) (x.toNat * 144 + y.toNat) C dX4_at_59 rfl kk_175 (show 175 < 215 by decide) (by omega) (by omega) (by decide) ?_
                refine am_goto (q := 64) C dX4_at_60 (by decide) ?_
                refine am_lret C T dX4_at_64 rfl (Nat.le_refl _) (Nat.le_refl _) ⟨_, rfl, ?_⟩
                refine ⟨?_, rfl⟩
                rw [if_pos (by omega)]
set_option maxRecDepth 4000 in
theorem sp_X4_begin {kx ky : Int} (hK : knF I kx ky) : am_S G mX4_begin 1 0 0 [.ref 174] (215, kK, kR, I, J) (am_qv (fun w' => ∃ J' : Nat → Nat → Int64, w' = (215, kK, kR, I, J') ∧ (∀ h, h ≠ 175 → J' h = J h) ∧ tabF J' kx ky oneAt)) := by
  obtain ⟨k1, k2, k3, k4, k5, k6⟩ := hK
  refine am_spec (plainFor_of_name (by decide +kernel)) (Nat.le_of_ble_eq_true rfl) (L := [some (.ref 174), none, none]) rfl (fun X C T => ?_)
  have lpi : ∀ (fuel : Nat) (x y : Nat) (J1 : Nat → Nat → Int64), ((x : Int) ≤ kx) → ((y : Int) ≤ ky + 1) → (∀ h, h ≠ 175 → J1 h = J h) → (∀ x1 y1 : Nat, (x1 : Int) ≤ kx → (y1 : Int) ≤ ky → (x1 < x ∨ x1 = x ∧ y1 < y) → J1 175 (x1 * 144 + y1) = 0) → (144 - y) < fuel → (∀ (J2 : Nat → Nat → Int64), (∀ h, h ≠ 175 → J2 h = J h) → (∀ x1 y1 : Nat, (x1 : Int) ≤ kx → (y1 : Int) ≤ ky → x1 < x + 1 → J2 175 (x1 * 144 + y1) = 0) → am_A G mX4_begin X (am_rm 1 0 0) 53 [some (.ref 174), some (.int (iZ (x : Int))), none] [] (215, kK, kR, I, J2) 0 0) → am_A G mX4_begin X (am_rm 1 0 0) 19 [some (.ref 174), some (.int (iZ (x : Int))), some (.int (iZ (y : Int)))] [] (215, kK, kR, I, J1) 0 0 := by
    intro fuel
    induction fuel with
    | zero => intro x y J1 hx hy hJ hz hfu hk; exact absurd hfu (Nat.not_lt_zero _)
    | succ fuel ih =>
      intro x y J1 hx hy hJ hz hfu hk
      refine am_iload_n (q := 20) C dX4_begin_19 rfl rfl ?_
      refine am_aload_n (q := 21) C dX4_begin_20 rfl rfl ?_
      refine am_getIe (q := 24) (v := (iZ ky)) C fb_X4_19 dX4_begin_21 rfl rfl kk_174 (show 174 < 215 by decide) k2 ?_
      refine am_icmpZ_gt (q := 27) (tgt := 53) C dX4_begin_24 (by decide) rfl ⟨by omega, by omega⟩ ⟨by omega, by omega⟩ (fun c1 => ?_) (fun c1 => ?_)
      · refine am_wkA (L1 := [some (.ref 174), some (.int (iZ (x : Int))), none]) ⟨rfl, ⟨rfl, trivial⟩⟩ ?_
        exact hk _ hJ (fun x1 y1 h1 h2 h3 => hz x1 y1 h1 h2 (by omega))
      · refine am_iload_n (q := 28) C dX4_begin_27 rfl rfl ?_
        refine am_sipush (q := 31) (v := iZ 144) C dX4_begin_28 rfl rfl ?_
        refine am_icmpZ_ge (q := 34) (tgt := 53) C dX4_begin_31 (by decide) rfl ⟨by omega, by omega⟩ ⟨by omega, by omega⟩ (fun c2 => ?_) (fun c2 => ?_)
        · refine am_wkA (L1 := [some (.ref 174), some (.int (iZ (x : Int))), none]) ⟨rfl, ⟨rfl, trivial⟩⟩ ?_
          exact hk _ hJ (fun x1 y1 h1 h2 h3 => hz x1 y1 h1 h2 (by omega))
        · refine am_aload_n (q := 35) C dX4_begin_34 rfl rfl ?_
          refine am_getR (q := 38) C fb_X4_11 dX4_begin_35 rfl rfl kk_174 (show 174 < 215 by decide) kr_174_0 ?_
          refine am_iload_n (q := 39) C dX4_begin_38 rfl rfl ?_
          refine am_sipush (q := 42) (v := iZ 144) C dX4_begin_39 rfl rfl ?_
          refine am_imulZ (q := 43) C dX4_begin_42 rfl ?_
          refine am_iload_n (q := 44) C dX4_begin_43 rfl rfl ?_
          refine am_iaddZ (q := 45) C dX4_begin_44 rfl ?_
          refine am_lconst (q := 46) (v := lN 0) C dX4_begin_45 rfl rfl ?_
          refine am_lastoreZ (q := 47) (x * 144 + y) C dX4_begin_46 rfl kk_175 (show 175 < 215 by decide) (by omega) (by omega) (by decide) ?_
          refine am_iincZ (q := 50) (L' := [some (.ref 174), some (.int (iZ (x : Int))), some (.int (iZ ((y + 1 : Nat) : Int)))]) C dX4_begin_47 rfl rfl (by omega) (by decide) rfl rfl ?_
          refine am_goto (q := 19) C dX4_begin_50 (by decide) ?_
          exact ih x (y + 1) _ hx (by omega) (fun h hh => by rw [am_up_row _ _ _ _ hh]; exact hJ h hh) (fun x1 y1 h1 h2 h3 => by
            by_cases e : x1 * 144 + y1 = x * 144 + y
            · rw [e, am_up_eq]; rfl
            · rw [am_up_ne _ _ _ _ (Or.inr e)]; exact hz x1 y1 h1 h2 (by omega)) (by omega) hk
  have lpo : ∀ (fuel : Nat) (x : Nat) (J1 : Nat → Nat → Int64), ((x : Int) ≤ kx + 1) → (∀ h, h ≠ 175 → J1 h = J h) → (∀ x1 y1 : Nat, (x1 : Int) ≤ kx → (y1 : Int) ≤ ky → x1 < x → J1 175 (x1 * 144 + y1) = 0) → (144 - x) < fuel → (∀ (J2 : Nat → Nat → Int64), (∀ h, h ≠ 175 → J2 h = J h) → (∀ x1 y1 : Nat, (x1 : Int) ≤ kx → (y1 : Int) ≤ ky → True → J2 175 (x1 * 144 + y1) = 0) → am_A G mX4_begin X (am_rm 1 0 0) 59 [some (.ref 174), none, none] [] (215, kK, kR, I, J2) 0 0) → am_A G mX4_begin X (am_rm 1 0 0) 2 [some (.ref 174), some (.int (iZ (x : Int))), none] [] (215, kK, kR, I, J1) 0 0 := by
    intro fuel
    induction fuel with
    | zero => intro x J1 hx hJ hz hfu hk; exact absurd hfu (Nat.not_lt_zero _)
    | succ fuel ih =>
      intro x J1 hx hJ hz hfu hk
      refine am_iload_n (q := 3) C dX4_begin_2 rfl rfl ?_
      refine am_aload_n (q := 4) C dX4_begin_3 rfl rfl ?_
      refine am_getIe (q := 7) (v := (iZ kx)) C fb_X4_15 dX4_begin_4 rfl rfl kk_174 (show 174 < 215 by decide) k1 ?_
      refine am_icmpZ_gt (q := 10) (tgt := 59) C dX4_begin_7 (by decide) rfl ⟨by omega, by omega⟩ ⟨by omega, by omega⟩ (fun c3 => ?_) (fun c3 => ?_)
      · refine am_wkA (L1 := [some (.ref 174), none, none]) ⟨rfl, trivial⟩ ?_
        exact hk _ hJ (fun x1 y1 h1 h2 _ => hz x1 y1 h1 h2 (by omega))
      · refine am_iload_n (q := 11) C dX4_begin_10 rfl rfl ?_
        refine am_sipush (q := 14) (v := iZ 144) C dX4_begin_11 rfl rfl ?_
        refine am_icmpZ_ge (q := 17) (tgt := 59) C dX4_begin_14 (by decide) rfl ⟨by omega, by omega⟩ ⟨by omega, by omega⟩ (fun c4 => ?_) (fun c4 => ?_)
        · refine am_wkA (L1 := [some (.ref 174), none, none]) ⟨rfl, trivial⟩ ?_
          exact hk _ hJ (fun x1 y1 h1 h2 _ => hz x1 y1 h1 h2 (by omega))
        · refine am_iconst (q := 18) (v := iZ 0) C dX4_begin_17 rfl rfl ?_
          refine am_istore_n (q := 19) (L' := [some (.ref 174), some (.int (iZ (x : Int))), some (.int (iZ 0))]) C dX4_begin_18 rfl (by decide) rfl rfl ?_
          refine lpi 145 x 0 _ (by omega) (by omega) hJ (fun x1 y1 h1 h2 h3 => hz x1 y1 h1 h2 (by omega)) (by omega) (fun J2 hJ hz => ?_)
          refine am_iincZ (q := 56) (L' := [some (.ref 174), some (.int (iZ ((x + 1 : Nat) : Int))), none]) C dX4_begin_53 rfl rfl (by omega) (by decide) rfl rfl ?_
          refine am_goto (q := 2) C dX4_begin_56 (by decide) ?_
          exact ih (x + 1) _ (by omega) hJ hz (by omega) hk
  refine am_iconst (q := 1) (v := iZ 0) C dX4_begin_0 rfl rfl ?_
  refine am_istore_n (q := 2) (L' := [some (.ref 174), some (.int (iZ 0)), none]) C dX4_begin_1 rfl (by decide) rfl rfl ?_
  refine lpo 145 0 J (by omega) (fun h hh => rfl) (fun x1 y1 h1 h2 h3 => absurd h3 (Nat.not_lt_zero _)) (by omega) (fun J2 hJ hz => ?_)
  refine am_aload_n (q := 60) C dX4_begin_59 rfl rfl ?_
  refine am_getR (q := 63) C fb_X4_11 dX4_begin_60 rfl rfl kk_174 (show 174 < 215 by decide) kr_174_0 ?_
  refine am_iconst (q := 64) (v := iZ 0) C dX4_begin_63 rfl rfl ?_
  refine am_lconst (q := 65) (v := lN 1) C dX4_begin_64 rfl rfl ?_
  refine am_lastoreZ (q := 66) 0 C dX4_begin_65 rfl kk_175 (show 175 < 215 by decide) rfl (by decide) (by decide) ?_
  refine am_vret C T dX4_begin_66 rfl (Nat.le_refl _) (Nat.le_refl _) ⟨rfl, ?_⟩
  refine ⟨_, rfl, fun h hh => by rw [am_up_row _ _ _ _ hh]; exact hJ h hh, fun x y hx hy => ?_⟩
  unfold oneAt
  by_cases e : x * 144 + y = 0
  · rw [e, am_up_eq, if_pos (by omega)]; rfl
  · rw [am_up_ne _ _ _ _ (Or.inr e), if_neg (by omega)]; exact hz x y hx hy trivial
set_option maxRecDepth 4000 in
theorem sp_X4_add {kx ky : Int} (hK : knF I kx ky) {f : Nat → Nat → Int64} (hT : tabF J kx ky f) {a b : Nat} (ha : a ≤ 4) (hb : b ≤ 4) (hab : 1 ≤ a + b) : am_S G mX4_add 2 0 0 [.ref 174, .int (iZ (a : Int)), .int (iZ (b : Int))] (215, kK, kR, I, J) (am_qv (fun w' => ∃ J' : Nat → Nat → Int64, w' = (215, kK, kR, I, J') ∧ (∀ h, h ≠ 175 → J' h = J h) ∧ tabF J' kx ky (geoF f a b))) := by
  have hK9 := hK
  obtain ⟨k1, k2, k3, k4, k5, k6⟩ := hK
  refine am_spec (plainFor_of_name (by decide +kernel)) (Nat.le_of_ble_eq_true rfl) (L := [some (.ref 174), some (.int (iZ (a : Int))), some (.int (iZ (b : Int))), none, none]) rfl (fun X C T => ?_)
  have lpi : ∀ (fuel : Nat) (x y : Nat) (J1 : Nat → Nat → Int64), (a ≤ x) → (b ≤ y) → ((x : Int) ≤ kx) → ((y : Int) ≤ ky + 1 ∨ y = b) → (∀ h, h ≠ 175 → J1 h = J h) → (∀ x1 y1 : Nat, (x1 : Int) ≤ kx → (y1 : Int) ≤ ky → J1 175 (x1 * 144 + y1) = if x1 < x ∨ x1 = x ∧ y1 < y then geoF f a b x1 y1 else f x1 y1) → (150 - y) < fuel → (∀ (J2 : Nat → Nat → Int64), (∀ h, h ≠ 175 → J2 h = J h) → (∀ x1 y1 : Nat, (x1 : Int) ≤ kx → (y1 : Int) ≤ ky → J2 175 (x1 * 144 + y1) = if x1 < x + 1 then geoF f a b x1 y1 else f x1 y1) → am_A G mX4_add X (am_rm 2 0 0) 78 [some (.ref 174), some (.int (iZ (a : Int))), some (.int (iZ (b : Int))), some (.int (iZ (x : Int))), none] [] (215, kK, kR, I, J2) 0 0) → am_A G mX4_add X (am_rm 2 0 0) 28 [some (.ref 174), some (.int (iZ (a : Int))), some (.int (iZ (b : Int))), some (.int (iZ (x : Int))), some (.int (iZ (y : Int)))] [] (215, kK, kR, I, J1) 0 0 := by
    intro fuel
    induction fuel with
    | zero => intro x y J1 hax hby hx hy hJ hz hfu hk; exact absurd hfu (Nat.not_lt_zero _)
    | succ fuel ih =>
      intro x y J1 hax hby hx hy hJ hz hfu hk
      refine am_iload (q := 30) C dX4_add_28 rfl rfl ?_
      refine am_aload_n (q := 31) C dX4_add_30 rfl rfl ?_
      refine am_getIe (q := 34) (v := (iZ ky)) C fb_X4_19 dX4_add_31 rfl rfl kk_174 (show 174 < 215 by decide) k2 ?_
      refine am_icmpZ_gt (q := 37) (tgt := 78) C dX4_add_34 (by decide) rfl ⟨by omega, by omega⟩ ⟨by omega, by omega⟩ (fun c1 => ?_) (fun c1 => ?_)
      · refine am_wkA (L1 := [some (.ref 174), some (.int (iZ (a : Int))), some (.int (iZ (b : Int))), some (.int (iZ (x : Int))), none]) ⟨rfl, ⟨rfl, ⟨rfl, ⟨rfl, trivial⟩⟩⟩⟩ ?_
        exact hk _ hJ (fun x1 y1 h1 h2 => by
          rw [hz x1 y1 h1 h2]
          by_cases e3 : x1 < x + 1
          · rw [if_pos e3, if_pos (by omega)]
          · rw [if_neg e3, if_neg (by omega)])
      · refine am_iload (q := 39) C dX4_add_37 rfl rfl ?_
        refine am_sipush (q := 42) (v := iZ 144) C dX4_add_39 rfl rfl ?_
        refine am_icmpZ_ge (q := 45) (tgt := 78) C dX4_add_42 (by decide) rfl ⟨by omega, by omega⟩ ⟨by omega, by omega⟩ (fun c2 => ?_) (fun c2 => ?_)
        · refine am_wkA (L1 := [some (.ref 174), some (.int (iZ (a : Int))), some (.int (iZ (b : Int))), some (.int (iZ (x : Int))), none]) ⟨rfl, ⟨rfl, ⟨rfl, ⟨rfl, trivial⟩⟩⟩⟩ ?_
          exact hk _ hJ (fun x1 y1 h1 h2 => by
            rw [hz x1 y1 h1 h2]
            by_cases e3 : x1 < x + 1
            · rw [if_pos e3, if_pos (by omega)]
            · rw [if_neg e3, if_neg (by omega)])
        · refine am_aload_n (q := 46) C dX4_add_45 rfl rfl ?_
          refine am_getR (q := 49) C fb_X4_11 dX4_add_46 rfl rfl kk_174 (show 174 < 215 by decide) kr_174_0 ?_
          refine am_iload_n (q := 50) C dX4_add_49 rfl rfl ?_
          refine am_sipush (q := 53) (v := iZ 144) C dX4_add_50 rfl rfl ?_
          refine am_imulZ (q := 54) C dX4_add_53 rfl ?_
          refine am_iload (q := 56) C dX4_add_54 rfl rfl ?_
          refine am_iaddZ (q := 57) C dX4_add_56 rfl ?_
          refine am_dup2 (q := 58) C dX4_add_57 rfl rfl rfl ?_
          refine am_laloadZ (q := 59) (x * 144 + y) C dX4_add_58 rfl kk_175 (show 175 < 215 by decide) (by omega) (by omega) (by decide) ?_
          refine am_longE (y := (f x y)) (by rw [hz x y (by omega) (by omega), if_neg (by omega)]) ?_
          refine am_aload_n (q := 60) C dX4_add_59 rfl rfl ?_
          refine am_iload_n (q := 61) C dX4_add_60 rfl rfl ?_
          refine am_iload_n (q := 62) C dX4_add_61 rfl rfl ?_
          refine am_isubZ (q := 63) C dX4_add_62 rfl ?_
          refine am_iload (q := 65) C dX4_add_63 rfl rfl ?_
          refine am_iload_n (q := 66) C dX4_add_65 rfl rfl ?_
          refine am_isubZ (q := 67) C dX4_add_66 rfl ?_
          refine am_callV (q := 70) (As := [.int (iZ ((x : Int) - (a : Int))), .int (iZ ((y : Int) - (b : Int)))]) (rest := [.long (f x y), .int (iZ ((x : Int) * 144 + (y : Int))), .ref 175]) C mb_X4_at im_X4_at se_X4_at ml_X4_50 cb_4 kk_174 (show 174 < 215 by decide) dX4_add_67 rfl (sp_X4_at hK9 (x := (x : Int) - (a : Int)) (y := (y : Int) - (b : Int)) ⟨by omega, by omega⟩ ⟨by omega, by omega⟩) rfl rfl ⟨by decide, by decide⟩ ⟨Nat.le_refl _, Nat.le_refl _⟩ (Nat.le_of_ble_eq_true rfl) (am_rle ?_)
          refine am_longE (show _ = geoF f a b (x - a) (y - b) from ?_) ?_
          · rw [if_pos (by omega), show ((x : Int) - (a : Int)).toNat = x - a by omega, show ((y : Int) - (b : Int)).toNat = y - b by omega, hz (x - a) (y - b) (by omega) (by omega), if_pos (by omega)]
          refine am_ladd (q := 71) C dX4_add_70 rfl ?_
          refine am_lastoreZ (q := 72) (x * 144 + y) C dX4_add_71 rfl kk_175 (show 175 < 215 by decide) (by omega) (by omega) (by decide) ?_
          refine am_iincZ (q := 75) (L' := [some (.ref 174), some (.int (iZ (a : Int))), some (.int (iZ (b : Int))), some (.int (iZ (x : Int))), some (.int (iZ ((y + 1 : Nat) : Int)))]) C dX4_add_72 rfl rfl (by omega) (by decide) rfl rfl ?_
          refine am_goto (q := 28) C dX4_add_75 (by decide) ?_
          exact ih x (y + 1) _ hax (by omega) hx (by omega) (fun h hh => by rw [am_up_row _ _ _ _ hh]; exact hJ h hh) (fun x1 y1 h1 h2 => by
            by_cases e : x1 * 144 + y1 = x * 144 + y
            · have e1 : x1 = x := by omega
              have e2 : y1 = y := by omega
              subst e1; subst e2
              rw [am_up_eq, if_pos (by omega), geoF_in f hab hax hby]
            · rw [am_up_ne _ _ _ _ (Or.inr e), hz x1 y1 h1 h2]
              by_cases e3 : x1 < x ∨ x1 = x ∧ y1 < y
              · rw [if_pos e3, if_pos (by omega)]
              · rw [if_neg e3, if_neg (by omega)]) (by omega) hk
  have lpo : ∀ (fuel : Nat) (x : Nat) (J1 : Nat → Nat → Int64), (a ≤ x) → ((x : Int) ≤ kx + 1 ∨ x = a) → (∀ h, h ≠ 175 → J1 h = J h) → (∀ x1 y1 : Nat, (x1 : Int) ≤ kx → (y1 : Int) ≤ ky → J1 175 (x1 * 144 + y1) = if x1 < x then geoF f a b x1 y1 else f x1 y1) → (150 - x) < fuel → (∀ (J2 : Nat → Nat → Int64), (∀ h, h ≠ 175 → J2 h = J h) → (tabF J2 kx ky (geoF f a b)) → am_A G mX4_add X (am_rm 2 0 0) 84 [some (.ref 174), some (.int (iZ (a : Int))), some (.int (iZ (b : Int))), none, none] [] (215, kK, kR, I, J2) 0 0) → am_A G mX4_add X (am_rm 2 0 0) 6 [some (.ref 174), some (.int (iZ (a : Int))), some (.int (iZ (b : Int))), some (.int (iZ (x : Int))), none] [] (215, kK, kR, I, J1) 0 0 := by
    intro fuel
    induction fuel with
    | zero => intro x J1 hax hx hJ hz hfu hk; exact absurd hfu (Nat.not_lt_zero _)
    | succ fuel ih =>
      intro x J1 hax hx hJ hz hfu hk
      refine am_iload_n (q := 7) C dX4_add_6 rfl rfl ?_
      refine am_aload_n (q := 8) C dX4_add_7 rfl rfl ?_
      refine am_getIe (q := 11) (v := (iZ kx)) C fb_X4_15 dX4_add_8 rfl rfl kk_174 (show 174 < 215 by decide) k1 ?_
      refine am_icmpZ_gt (q := 14) (tgt := 84) C dX4_add_11 (by decide) rfl ⟨by omega, by omega⟩ ⟨by omega, by omega⟩ (fun c3 => ?_) (fun c3 => ?_)
      · refine am_wkA (L1 := [some (.ref 174), some (.int (iZ (a : Int))), some (.int (iZ (b : Int))), none, none]) ⟨rfl, ⟨rfl, ⟨rfl, trivial⟩⟩⟩ ?_
        exact hk _ hJ (fun x1 y1 h1 h2 => by rw [hz x1 y1 h1 h2, if_pos (by omega)])
      · refine am_iload_n (q := 15) C dX4_add_14 rfl rfl ?_
        refine am_sipush (q := 18) (v := iZ 144) C dX4_add_15 rfl rfl ?_
        refine am_icmpZ_ge (q := 21) (tgt := 84) C dX4_add_18 (by decide) rfl ⟨by omega, by omega⟩ ⟨by omega, by omega⟩ (fun c4 => ?_) (fun c4 => ?_)
        · refine am_wkA (L1 := [some (.ref 174), some (.int (iZ (a : Int))), some (.int (iZ (b : Int))), none, none]) ⟨rfl, ⟨rfl, ⟨rfl, trivial⟩⟩⟩ ?_
          exact hk _ hJ (fun x1 y1 h1 h2 => by rw [hz x1 y1 h1 h2, if_pos (by omega)])
        · refine am_iload_n (q := 22) C dX4_add_21 rfl rfl ?_
          refine am_iconst (q := 23) (v := iZ 0) C dX4_add_22 rfl rfl ?_
          refine am_callS (q := 26) (As := [.int (iZ (b : Int)), .int (iZ 0)]) (rest := []) C mb_J9_max_7cf53 st_J9_max_7cf53 ml_X4_22 dX4_add_23 rfl (sp_max ⟨by omega, by omega⟩ ⟨by omega, by omega⟩) rfl rfl ⟨by decide, by decide⟩ ⟨Nat.le_refl _, Nat.le_refl _⟩ (Nat.le_of_ble_eq_true rfl) (am_rie ?_)
          refine am_intE (show _ = iZ (b : Int) from congrArg iZ (by omega)) ?_
          refine am_istore (q := 28) (L' := [some (.ref 174), some (.int (iZ (a : Int))), some (.int (iZ (b : Int))), some (.int (iZ (x : Int))), some (.int (iZ (b : Int)))]) C dX4_add_26 rfl (by decide) rfl rfl ?_
          refine lpi 151 x b _ hax (Nat.le_refl _) (by omega) (Or.inr rfl) hJ (fun x1 y1 h1 h2 => by
            rw [hz x1 y1 h1 h2]
            by_cases e3 : x1 < x
            · rw [if_pos e3, if_pos (Or.inl e3)]
            · by_cases e4 : x1 = x ∧ y1 < b
              · rw [if_neg e3, if_pos (Or.inr e4), geoF_out f hab (by omega)]
              · rw [if_neg e3, if_neg (by omega)]) (by omega) (fun J2 hJ hz => ?_)
          refine am_iincZ (q := 81) (L' := [some (.ref 174), some (.int (iZ (a : Int))), some (.int (iZ (b : Int))), some (.int (iZ ((x + 1 : Nat) : Int))), none]) C dX4_add_78 rfl rfl (by omega) (by decide) rfl rfl ?_
          refine am_goto (q := 6) C dX4_add_81 (by decide) ?_
          exact ih (x + 1) _ (by omega) (by omega) hJ hz (by omega) hk
  refine am_iload_n (q := 1) C dX4_add_0 rfl rfl ?_
  refine am_iconst (q := 2) (v := iZ 0) C dX4_add_1 rfl rfl ?_
  refine am_callS (q := 5) (As := [.int (iZ (a : Int)), .int (iZ 0)]) (rest := []) C mb_J9_max_7cf53 st_J9_max_7cf53 ml_X4_22 dX4_add_2 rfl (sp_max ⟨by omega, by omega⟩ ⟨by omega, by omega⟩) rfl rfl ⟨by decide, by decide⟩ ⟨Nat.le_refl _, Nat.le_refl _⟩ (Nat.le_of_ble_eq_true rfl) (am_rie ?_)
  refine am_intE (show _ = iZ (a : Int) from congrArg iZ (by omega)) ?_
  refine am_istore_n (q := 6) (L' := [some (.ref 174), some (.int (iZ (a : Int))), some (.int (iZ (b : Int))), some (.int (iZ (a : Int))), none]) C dX4_add_5 rfl (by decide) rfl rfl ?_
  refine lpo 151 a J (Nat.le_refl _) (Or.inr rfl) (fun h hh => rfl) (fun x1 y1 h1 h2 => by
    rw [hT x1 y1 h1 h2]
    by_cases e3 : x1 < a
    · rw [if_pos e3, geoF_out f hab (Or.inl e3)]
    · rw [if_neg e3]) (by omega) (fun J2 hJ hT => ?_)
  refine am_vret C T dX4_add_84 rfl (Nat.le_refl _) (Nat.le_refl _) ⟨rfl, ?_⟩
  exact ⟨_, rfl, hJ, hT⟩
set_option maxRecDepth 4000 in
theorem sp_X4_reach {t : PT} (hA : atP 1 I J t) (hK : okP t) (hF : freeOK I J t) {x y : Int} (hx : 0 ≤ x ∧ x ≤ 1000) (hy : 0 ≤ y ∧ y ≤ 1000) : am_S G mX4_reach 3 0 0 [.ref 174, .int (iZ x), .int (iZ y), .ref 1] (215, kK, kR, I, J) (am_qv (fun w' => ∃ (I' : Nat → Nat → Int32) (J' : Nat → Nat → Int64), w' = (215, kK, kR, I', J') ∧ (∃ kx ky : Int, knF I' kx ky ∧ tabF J' kx ky (Fr t (pm t)) ∧ min x 143 ≤ kx ∧ min y 143 ≤ ky) ∧ (∀ h, h ≠ 174 → I' h = I h) ∧ ∀ h, h ≠ 175 → J' h = J h)) := by
  have hm := hK.1
  obtain ⟨kx, ky, ⟨k1, k2, k3, k4, k5, k6⟩, hT⟩ := hF
  refine am_spec (plainFor_of_name (by decide +kernel)) (Nat.le_of_ble_eq_true rfl) (L := [some (.ref 174), some (.int (iZ x)), some (.int (iZ y)), some (.ref 1), none]) rfl (fun X C T => ?_)
  refine am_iload_n (q := 1) C dX4_reach_0 rfl rfl ?_
  refine am_aload_n (q := 2) C dX4_reach_1 rfl rfl ?_
  refine am_getIe (q := 5) (v := (iZ kx)) C fb_X4_15 dX4_reach_2 rfl rfl kk_174 (show 174 < 215 by decide) k1 ?_
  refine am_icmpZ_gt (q := 8) (tgt := 17) C dX4_reach_5 (by decide) rfl ⟨by omega, by omega⟩ ⟨by omega, by omega⟩ (fun c1 => ?_) (fun c1 => ?_)
  · refine am_aload_n (q := 18) C dX4_reach_17 rfl rfl ?_
    refine am_iload_n (q := 19) C dX4_reach_18 rfl rfl ?_
    refine am_aload_n (q := 20) C dX4_reach_19 rfl rfl ?_
    refine am_getIe (q := 23) (v := (iZ kx)) C fb_X4_15 dX4_reach_20 rfl rfl kk_174 (show 174 < 215 by decide) k1 ?_
    refine am_callS (q := 26) (As := [.int (iZ x), .int (iZ kx)]) (rest := [.ref 174]) C mb_J9_max_7cf53 st_J9_max_7cf53 ml_X4_22 dX4_reach_23 rfl (sp_max ⟨by omega, by omega⟩ ⟨by omega, by omega⟩) rfl rfl ⟨by decide, by decide⟩ ⟨Nat.le_refl _, Nat.le_refl _⟩ (Nat.le_of_ble_eq_true rfl) (am_rie ?_)
    refine am_sipush (q := 29) (v := iZ 143) C dX4_reach_26 rfl rfl ?_
    refine am_callS (q := 32) (As := [.int (iZ (max x kx)), .int (iZ 143)]) (rest := [.ref 174]) C mb_J9_min_7cf53 st_J9_min_7cf53 ml_X4_28 dX4_reach_29 rfl (sp_min ⟨by omega, by omega⟩ ⟨by omega, by omega⟩) rfl rfl ⟨by decide, by decide⟩ ⟨Nat.le_refl _, Nat.le_refl _⟩ (Nat.le_of_ble_eq_true rfl) (am_rie ?_)
    refine am_putI (q := 35) C fw_X4_15 dX4_reach_32 rfl rfl kk_174 (show 174 < 215 by decide) ?_
    refine am_aload_n (q := 36) C dX4_reach_35 rfl rfl ?_
    refine am_iload_n (q := 37) C dX4_reach_36 rfl rfl ?_
    refine am_aload_n (q := 38) C dX4_reach_37 rfl rfl ?_
    refine am_getIe (q := 41) (v := (iZ ky)) C fb_X4_19 dX4_reach_38 rfl rfl kk_174 (show 174 < 215 by decide) (by rw [am_up_ne _ _ _ _ (Or.inr (by decide))]; exact k2) ?_
    refine am_callS (q := 44) (As := [.int (iZ y), .int (iZ ky)]) (rest := [.ref 174]) C mb_J9_max_7cf53 st_J9_max_7cf53 ml_X4_22 dX4_reach_41 rfl (sp_max ⟨by omega, by omega⟩ ⟨by omega, by omega⟩) rfl rfl ⟨by decide, by decide⟩ ⟨Nat.le_refl _, Nat.le_refl _⟩ (Nat.le_of_ble_eq_true rfl) (am_rie ?_)
    refine am_sipush (q := 47) (v := iZ 143) C dX4_reach_44 rfl rfl ?_
    refine am_callS (q := 50) (As := [.int (iZ (max y ky)), .int (iZ 143)]) (rest := [.ref 174]) C mb_J9_min_7cf53 st_J9_min_7cf53 ml_X4_28 dX4_reach_47 rfl (sp_min ⟨by omega, by omega⟩ ⟨by omega, by omega⟩) rfl rfl ⟨by decide, by decide⟩ ⟨Nat.le_refl _, Nat.le_refl _⟩ (Nat.le_of_ble_eq_true rfl) (am_rie ?_)
    refine am_putI (q := 53) C fw_X4_19 dX4_reach_50 rfl rfl kk_174 (show 174 < 215 by decide) ?_
    refine am_aload_n (q := 54) C dX4_reach_53 rfl rfl ?_
    refine am_callV (q := 57) (As := []) (rest := []) C mb_X4_begin im_X4_begin se_X4_begin ml_X4_31 cb_4 kk_174 (show 174 < 215 by decide) dX4_reach_54 rfl (sp_X4_begin (kx := min (max x kx) 143) (ky := min (max y ky) 143) ⟨am_up_ne _ _ _ _ (Or.inr (by decide)) |>.trans (am_up_eq _ _ _ _), am_up_eq _ _ _ _, by omega, by omega, by omega, by omega⟩) rfl rfl ⟨by decide, by decide⟩ ⟨Nat.le_refl _, Nat.le_refl _⟩ (Nat.le_of_ble_eq_true rfl) (am_rv (fun w' hw' => ?_))
    obtain ⟨J1, rfl, hJ1, hT1⟩ := hw'
    have hI : ∀ h, h ≠ 174 → (am_up (am_up I 174 1 (iZ (min (max x kx) 143))) 174 2 (iZ (min (max y ky) 143))) h = I h := fun h hh => by rw [am_up_row _ _ _ _ hh, am_up_row _ _ _ _ hh]
    have hkn : knF (am_up (am_up I 174 1 (iZ (min (max x kx) 143))) 174 2 (iZ (min (max y ky) 143))) (min (max x kx) 143) (min (max y ky) 143) := ⟨am_up_ne _ _ _ _ (Or.inr (by decide)) |>.trans (am_up_eq _ _ _ _), am_up_eq _ _ _ _, by omega, by omega, by omega, by omega⟩
    generalize (am_up (am_up I 174 1 (iZ (min (max x kx) 143))) 174 2 (iZ (min (max y ky) 143))) = I1 at hI hkn ⊢
    refine am_iconst (q := 58) (v := iZ 0) C dX4_reach_57 rfl rfl ?_
    refine am_istore (q := 60) (L' := [some (.ref 174), some (.int (iZ x)), some (.int (iZ y)), some (.ref 1), some (.int (iZ 0))]) C dX4_reach_58 rfl (by decide) rfl rfl ?_
    have lp : ∀ (fuel : Nat) (p : Nat) (J2 : Nat → Nat → Int64), (p ≤ pm t) → (∀ h, h ≠ 175 → J2 h = J h) → (tabF J2 (min (max x kx) 143) (min (max y ky) 143) (Fr t p)) → (pm t - p) < fuel → (∀ (J2 : Nat → Nat → Int64), (∀ h, h ≠ 175 → J2 h = J h) → (tabF J2 (min (max x kx) 143) (min (max y ky) 143) (Fr t (pm t))) → am_A G mX4_reach X (am_rm 3 0 0) 100 [some (.ref 174), none, none, none, none] [] (215, kK, kR, I1, J2) 0 0) → am_A G mX4_reach X (am_rm 3 0 0) 60 [some (.ref 174), none, none, some (.ref 1), some (.int (iZ (p : Int)))] [] (215, kK, kR, I1, J2) 0 0 := by
      intro fuel
      induction fuel with
      | zero => intro p J2 hp hJ hz hfu hk; exact absurd hfu (Nat.not_lt_zero _)
      | succ fuel ih =>
        intro p J2 hp hJ hz hfu hk
        refine am_iload (q := 62) C dX4_reach_60 rfl rfl ?_
        refine am_aload_n (q := 63) C dX4_reach_62 rfl rfl ?_
        refine am_getIe (q := 66) (v := (iZ (pm t : Int))) C fb_X4_34 dX4_reach_63 rfl rfl kk_1 (show 1 < 215 by decide) (by rw [hI 1 (by decide)]; exact hA.1) ?_
        refine am_icmpZ_ge (q := 69) (tgt := 100) C dX4_reach_66 (by decide) rfl ⟨by omega, by omega⟩ ⟨by omega, by omega⟩ (fun e1 => ?_) (fun e1 => ?_)
        · refine am_wkA (L1 := [some (.ref 174), none, none, none, none]) ⟨rfl, trivial⟩ ?_
          exact hk _ hJ ((show p = pm t by omega) ▸ hz)
        · refine am_iload (q := 71) C dX4_reach_69 rfl rfl ?_
          refine am_bipush (q := 73) (v := iZ 6) C dX4_reach_71 rfl rfl ?_
          refine am_icmpZ_ge (q := 76) (tgt := 100) C dX4_reach_73 (by decide) rfl ⟨by omega, by omega⟩ ⟨by omega, by omega⟩ (fun e2 => ?_) (fun e2 => ?_)
          · refine am_wkA (L1 := [some (.ref 174), none, none, none, none]) ⟨rfl, trivial⟩ ?_
            exact hk _ hJ ((show p = pm t by omega) ▸ hz)
          · refine am_aload_n (q := 77) C dX4_reach_76 rfl rfl ?_
            refine am_aload_n (q := 78) C dX4_reach_77 rfl rfl ?_
            refine am_getR (q := 81) C fb_X4_39 dX4_reach_78 rfl rfl kk_1 (show 1 < 215 by decide) kr_1_0 ?_
            refine am_iload (q := 83) C dX4_reach_81 rfl rfl ?_
            refine am_ialoadZ (q := 84) p C dX4_reach_83 rfl kk_2 (show 2 < 215 by decide) rfl (by omega) (by decide) ?_
            refine am_intE (y := (iZ (pa t p : Int))) (by rw [hI 2 (by decide)]; exact (hA.2 p (by omega)).1) ?_
            refine am_aload_n (q := 85) C dX4_reach_84 rfl rfl ?_
            refine am_getR (q := 88) C fb_X4_43 dX4_reach_85 rfl rfl kk_1 (show 1 < 215 by decide) kr_1_1 ?_
            refine am_iload (q := 90) C dX4_reach_88 rfl rfl ?_
            refine am_ialoadZ (q := 91) p C dX4_reach_90 rfl kk_3 (show 3 < 215 by decide) rfl (by omega) (by decide) ?_
            refine am_intE (y := (iZ (pb t p : Int))) (by rw [hI 3 (by decide)]; exact (hA.2 p (by omega)).2.1) ?_
            refine am_callV (q := 94) (As := [.int (iZ (pa t p : Int)), .int (iZ (pb t p : Int))]) (rest := []) C mb_X4_add im_X4_add se_X4_add ml_X4_46 cb_4 kk_174 (show 174 < 215 by decide) dX4_reach_91 rfl (sp_X4_add hkn hz (hK.2 p (by omega)).1 (hK.2 p (by omega)).2.1 (hK.2 p (by omega)).2.2.1) rfl rfl ⟨by decide, by decide⟩ ⟨Nat.le_refl _, Nat.le_refl _⟩ (Nat.le_of_ble_eq_true rfl) (am_rv (fun w' hw' => ?_))
            obtain ⟨J3, rfl, hJ3, hT3⟩ := hw'
            refine am_iincZ (q := 97) (L' := [some (.ref 174), none, none, some (.ref 1), some (.int (iZ ((p + 1 : Nat) : Int)))]) C dX4_reach_94 rfl rfl (by omega) (by decide) rfl rfl ?_
            refine am_goto (q := 60) C dX4_reach_97 (by decide) ?_
            exact ih (p + 1) _ (by omega) (fun h hh => by rw [hJ3 h hh]; exact hJ h hh) hT3 (by omega) hk
    refine am_wkA (L1 := [some (.ref 174), none, none, some (.ref 1), some (.int (iZ 0))]) ⟨rfl, ⟨rfl, ⟨rfl, trivial⟩⟩⟩ ?_
    refine lp (pm t + 1) 0 _ (Nat.zero_le _) hJ1 hT1 (by omega) (fun J2 hJ hz => ?_)
    refine am_vret C T dX4_reach_100 rfl (Nat.le_refl _) (Nat.le_refl _) ⟨rfl, ?_⟩
    exact ⟨_, _, rfl, ⟨_, _, hkn, hz, by omega, by omega⟩, hI, hJ⟩
  · refine am_iload_n (q := 9) C dX4_reach_8 rfl rfl ?_
    refine am_aload_n (q := 10) C dX4_reach_9 rfl rfl ?_
    refine am_getIe (q := 13) (v := (iZ ky)) C fb_X4_19 dX4_reach_10 rfl rfl kk_174 (show 174 < 215 by decide) k2 ?_
    refine am_icmpZ_gt (q := 16) (tgt := 17) C dX4_reach_13 (by decide) rfl ⟨by omega, by omega⟩ ⟨by omega, by omega⟩ (fun c2 => ?_) (fun c2 => ?_)
    · refine am_aload_n (q := 18) C dX4_reach_17 rfl rfl ?_
      refine am_iload_n (q := 19) C dX4_reach_18 rfl rfl ?_
      refine am_aload_n (q := 20) C dX4_reach_19 rfl rfl ?_
      refine am_getIe (q := 23) (v := (iZ kx)) C fb_X4_15 dX4_reach_20 rfl rfl kk_174 (show 174 < 215 by decide) k1 ?_
      refine am_callS (q := 26) (As := [.int (iZ x), .int (iZ kx)]) (rest := [.ref 174]) C mb_J9_max_7cf53 st_J9_max_7cf53 ml_X4_22 dX4_reach_23 rfl (sp_max ⟨by omega, by omega⟩ ⟨by omega, by omega⟩) rfl rfl ⟨by decide, by decide⟩ ⟨Nat.le_refl _, Nat.le_refl _⟩ (Nat.le_of_ble_eq_true rfl) (am_rie ?_)
      refine am_sipush (q := 29) (v := iZ 143) C dX4_reach_26 rfl rfl ?_
      refine am_callS (q := 32) (As := [.int (iZ (max x kx)), .int (iZ 143)]) (rest := [.ref 174]) C mb_J9_min_7cf53 st_J9_min_7cf53 ml_X4_28 dX4_reach_29 rfl (sp_min ⟨by omega, by omega⟩ ⟨by omega, by omega⟩) rfl rfl ⟨by decide, by decide⟩ ⟨Nat.le_refl _, Nat.le_refl _⟩ (Nat.le_of_ble_eq_true rfl) (am_rie ?_)
      refine am_putI (q := 35) C fw_X4_15 dX4_reach_32 rfl rfl kk_174 (show 174 < 215 by decide) ?_
      refine am_aload_n (q := 36) C dX4_reach_35 rfl rfl ?_
      refine am_iload_n (q := 37) C dX4_reach_36 rfl rfl ?_
      refine am_aload_n (q := 38) C dX4_reach_37 rfl rfl ?_
      refine am_getIe (q := 41) (v := (iZ ky)) C fb_X4_19 dX4_reach_38 rfl rfl kk_174 (show 174 < 215 by decide) (by rw [am_up_ne _ _ _ _ (Or.inr (by decide))]; exact k2) ?_
      refine am_callS (q := 44) (As := [.int (iZ y), .int (iZ ky)]) (rest := [.ref 174]) C mb_J9_max_7cf53 st_J9_max_7cf53 ml_X4_22 dX4_reach_41 rfl (sp_max ⟨by omega, by omega⟩ ⟨by omega, by omega⟩) rfl rfl ⟨by decide, by decide⟩ ⟨Nat.le_refl _, Nat.le_refl _⟩ (Nat.le_of_ble_eq_true rfl) (am_rie ?_)
      refine am_sipush (q := 47) (v := iZ 143) C dX4_reach_44 rfl rfl ?_
      refine am_callS (q := 50) (As := [.int (iZ (max y ky)), .int (iZ 143)]) (rest := [.ref 174]) C mb_J9_min_7cf53 st_J9_min_7cf53 ml_X4_28 dX4_reach_47 rfl (sp_min ⟨by omega, by omega⟩ ⟨by omega, by omega⟩) rfl rfl ⟨by decide, by decide⟩ ⟨Nat.le_refl _, Nat.le_refl _⟩ (Nat.le_of_ble_eq_true rfl) (am_rie ?_)
      refine am_putI (q := 53) C fw_X4_19 dX4_reach_50 rfl rfl kk_174 (show 174 < 215 by decide) ?_
      refine am_aload_n (q := 54) C dX4_reach_53 rfl rfl ?_
      refine am_callV (q := 57) (As := []) (rest := []) C mb_X4_begin im_X4_begin se_X4_begin ml_X4_31 cb_4 kk_174 (show 174 < 215 by decide) dX4_reach_54 rfl (sp_X4_begin (kx := min (max x kx) 143) (ky := min (max y ky) 143) ⟨am_up_ne _ _ _ _ (Or.inr (by decide)) |>.trans (am_up_eq _ _ _ _), am_up_eq _ _ _ _, by omega, by omega, by omega, by omega⟩) rfl rfl ⟨by decide, by decide⟩ ⟨Nat.le_refl _, Nat.le_refl _⟩ (Nat.le_of_ble_eq_true rfl) (am_rv (fun w' hw' => ?_))
      obtain ⟨J1, rfl, hJ1, hT1⟩ := hw'
      have hI : ∀ h, h ≠ 174 → (am_up (am_up I 174 1 (iZ (min (max x kx) 143))) 174 2 (iZ (min (max y ky) 143))) h = I h := fun h hh => by rw [am_up_row _ _ _ _ hh, am_up_row _ _ _ _ hh]
      have hkn : knF (am_up (am_up I 174 1 (iZ (min (max x kx) 143))) 174 2 (iZ (min (max y ky) 143))) (min (max x kx) 143) (min (max y ky) 143) := ⟨am_up_ne _ _ _ _ (Or.inr (by decide)) |>.trans (am_up_eq _ _ _ _), am_up_eq _ _ _ _, by omega, by omega, by omega, by omega⟩
      generalize (am_up (am_up I 174 1 (iZ (min (max x kx) 143))) 174 2 (iZ (min (max y ky) 143))) = I1 at hI hkn ⊢
      refine am_iconst (q := 58) (v := iZ 0) C dX4_reach_57 rfl rfl ?_
      refine am_istore (q := 60) (L' := [some (.ref 174), some (.int (iZ x)), some (.int (iZ y)), some (.ref 1), some (.int (iZ 0))]) C dX4_reach_58 rfl (by decide) rfl rfl ?_
      have lp : ∀ (fuel : Nat) (p : Nat) (J2 : Nat → Nat → Int64), (p ≤ pm t) → (∀ h, h ≠ 175 → J2 h = J h) → (tabF J2 (min (max x kx) 143) (min (max y ky) 143) (Fr t p)) → (pm t - p) < fuel → (∀ (J2 : Nat → Nat → Int64), (∀ h, h ≠ 175 → J2 h = J h) → (tabF J2 (min (max x kx) 143) (min (max y ky) 143) (Fr t (pm t))) → am_A G mX4_reach X (am_rm 3 0 0) 100 [some (.ref 174), none, none, none, none] [] (215, kK, kR, I1, J2) 0 0) → am_A G mX4_reach X (am_rm 3 0 0) 60 [some (.ref 174), none, none, some (.ref 1), some (.int (iZ (p : Int)))] [] (215, kK, kR, I1, J2) 0 0 := by
        intro fuel
        induction fuel with
        | zero => intro p J2 hp hJ hz hfu hk; exact absurd hfu (Nat.not_lt_zero _)
        | succ fuel ih =>
          intro p J2 hp hJ hz hfu hk
          refine am_iload (q := 62) C dX4_reach_60 rfl rfl ?_
          refine am_aload_n (q := 63) C dX4_reach_62 rfl rfl ?_
          refine am_getIe (q := 66) (v := (iZ (pm t : Int))) C fb_X4_34 dX4_reach_63 rfl rfl kk_1 (show 1 < 215 by decide) (by rw [hI 1 (by decide)]; exact hA.1) ?_
          refine am_icmpZ_ge (q := 69) (tgt := 100) C dX4_reach_66 (by decide) rfl ⟨by omega, by omega⟩ ⟨by omega, by omega⟩ (fun e1 => ?_) (fun e1 => ?_)
          · refine am_wkA (L1 := [some (.ref 174), none, none, none, none]) ⟨rfl, trivial⟩ ?_
            exact hk _ hJ ((show p = pm t by omega) ▸ hz)
          · refine am_iload (q := 71) C dX4_reach_69 rfl rfl ?_
            refine am_bipush (q := 73) (v := iZ 6) C dX4_reach_71 rfl rfl ?_
            refine am_icmpZ_ge (q := 76) (tgt := 100) C dX4_reach_73 (by decide) rfl ⟨by omega, by omega⟩ ⟨by omega, by omega⟩ (fun e2 => ?_) (fun e2 => ?_)
            · refine am_wkA (L1 := [some (.ref 174), none, none, none, none]) ⟨rfl, trivial⟩ ?_
              exact hk _ hJ ((show p = pm t by omega) ▸ hz)
            · refine am_aload_n (q := 77) C dX4_reach_76 rfl rfl ?_
              refine am_aload_n (q := 78) C dX4_reach_77 rfl rfl ?_
              refine am_getR (q := 81) C fb_X4_39 dX4_reach_78 rfl rfl kk_1 (show 1 < 215 by decide) kr_1_0 ?_
              refine am_iload (q := 83) C dX4_reach_81 rfl rfl ?_
              refine am_ialoadZ (q := 84) p C dX4_reach_83 rfl kk_2 (show 2 < 215 by decide) rfl (by omega) (by decide) ?_
              refine am_intE (y := (iZ (pa t p : Int))) (by rw [hI 2 (by decide)]; exact (hA.2 p (by omega)).1) ?_
              refine am_aload_n (q := 85) C dX4_reach_84 rfl rfl ?_
              refine am_getR (q := 88) C fb_X4_43 dX4_reach_85 rfl rfl kk_1 (show 1 < 215 by decide) kr_1_1 ?_
              refine am_iload (q := 90) C dX4_reach_88 rfl rfl ?_
              refine am_ialoadZ (q := 91) p C dX4_reach_90 rfl kk_3 (show 3 < 215 by decide) rfl (by omega) (by decide) ?_
              refine am_intE (y := (iZ (pb t p : Int))) (by rw [hI 3 (by decide)]; exact (hA.2 p (by omega)).2.1) ?_
              refine am_callV (q := 94) (As := [.int (iZ (pa t p : Int)), .int (iZ (pb t p : Int))]) (rest := []) C mb_X4_add im_X4_add se_X4_add ml_X4_46 cb_4 kk_174 (show 174 < 215 by decide) dX4_reach_91 rfl (sp_X4_add hkn hz (hK.2 p (by omega)).1 (hK.2 p (by omega)).2.1 (hK.2 p (by omega)).2.2.1) rfl rfl ⟨by decide, by decide⟩ ⟨Nat.le_refl _, Nat.le_refl _⟩ (Nat.le_of_ble_eq_true rfl) (am_rv (fun w' hw' => ?_))
              obtain ⟨J3, rfl, hJ3, hT3⟩ := hw'
              refine am_iincZ (q := 97) (L' := [some (.ref 174), none, none, some (.ref 1), some (.int (iZ ((p + 1 : Nat) : Int)))]) C dX4_reach_94 rfl rfl (by omega) (by decide) rfl rfl ?_
              refine am_goto (q := 60) C dX4_reach_97 (by decide) ?_
              exact ih (p + 1) _ (by omega) (fun h hh => by rw [hJ3 h hh]; exact hJ h hh) hT3 (by omega) hk
      refine am_wkA (L1 := [some (.ref 174), none, none, some (.ref 1), some (.int (iZ 0))]) ⟨rfl, ⟨rfl, ⟨rfl, trivial⟩⟩⟩ ?_
      refine lp (pm t + 1) 0 _ (Nat.zero_le _) hJ1 hT1 (by omega) (fun J2 hJ hz => ?_)
      refine am_vret C T dX4_reach_100 rfl (Nat.le_refl _) (Nat.le_refl _) ⟨rfl, ?_⟩
      exact ⟨_, _, rfl, ⟨_, _, hkn, hz, by omega, by omega⟩, hI, hJ⟩
    · refine am_vret C T dX4_reach_16 rfl (Nat.le_refl _) (Nat.le_refl _) ⟨rfl, ?_⟩
      exact ⟨_, _, rfl, ⟨kx, ky, ⟨k1, k2, k3, k4, k5, k6⟩, hT, by omega, by omega⟩, fun h _ => rfl, fun h _ => rfl⟩
theorem geoF_next {f : Nat → Nat → Int64} {a b : Nat} (hab : 1 ≤ a + b) {u v : Int} (hu : 0 ≤ u) (hv : 0 ≤ v) {s z : Int64} (h : s + (if 0 ≤ u ∧ 0 ≤ v then geoF f a b u.toNat v.toNat else 0) = z) : s + f u.toNat v.toNat + (if 0 ≤ u - a ∧ 0 ≤ v - b then geoF f a b (u - a).toNat (v - b).toNat else 0) = z := by
  rw [if_pos ⟨hu, hv⟩, geoF_step f hab] at h
  rw [← h]
  by_cases e : 0 ≤ u - a ∧ 0 ≤ v - b
  · rw [if_pos e, if_pos (by omega), show (u - a).toNat = u.toNat - a by omega, show (v - b).toNat = v.toNat - b by omega]; exact Int64.add_assoc _ _ _
  · rw [if_neg e, if_neg (by omega)]; exact Int64.add_assoc _ _ _
set_option maxRecDepth 4000 in
theorem sp_X4_atWith {kx ky : Int} (hK : knF I kx ky) {f : Nat → Nat → Int64} (hT : tabF J kx ky f) {x y a b : Nat} (hx : (x : Int) ≤ kx) (hy : (y : Int) ≤ ky) (hx2 : x ≤ 60) (hy2 : y ≤ 60) (ha : a ≤ 4) (hb : b ≤ 4) (hab : 1 ≤ a + b) : am_S G mX4_atWith 2 0 0 [.ref 174, .int (iZ (x : Int)), .int (iZ (y : Int)), .int (iZ (a : Int)), .int (iZ (b : Int))] (215, kK, kR, I, J) (am_fl (geoF f a b x y) (215, kK, kR, I, J)) := by
  have hK9 := hK
  obtain ⟨k1, k2, k3, k4, k5, k6⟩ := hK
  refine am_spec (plainFor_of_name (by decide +kernel)) (Nat.le_of_ble_eq_true rfl) (L := [some (.ref 174), some (.int (iZ (x : Int))), some (.int (iZ (y : Int))), some (.int (iZ (a : Int))), some (.int (iZ (b : Int))), none, none, none, none, none]) rfl (fun X C T => ?_)
  have lp : ∀ (fuel : Nat) (u v : Int) (k : Nat) (s : Int64), (-4 ≤ u ∧ u ≤ 60) → (-4 ≤ v ∧ v ≤ 60) → ((a : Nat) = 0 ∨ u + k ≤ 60) → (b = 0 ∨ v + k ≤ 60) → (s + (if 0 ≤ u ∧ 0 ≤ v then geoF f a b u.toNat v.toNat else 0) = geoF f a b x y) → ((u : Int) ≤ kx ∧ v ≤ ky) → 62 - k < fuel → am_A G mX4_atWith X (am_rm 2 0 0) 12 [some (.ref 174), none, none, some (.int (iZ (a : Int))), some (.int (iZ (b : Int))), some (.long s), none, some (.int (iZ u)), some (.int (iZ v)), some (.int (iZ (k : Int)))] [] (215, kK, kR, I, J) 0 0 := by
    intro fuel
    induction fuel with
    | zero => intro u v k s h1 h2 h3 h4 h5 h6 hf; exact absurd hf (Nat.not_lt_zero _)
    | succ fuel ih =>
      intro u v k s h1 h2 h3 h4 h5 h6 hf
      refine am_iload (q := 14) C dX4_atWith_12 rfl rfl ?_
      refine am_bipush (q := 16) (v := iZ 60) C dX4_atWith_14 rfl rfl ?_
      refine am_icmpZ_gt (q := 19) (tgt := 61) C dX4_atWith_16 (by decide) rfl ⟨by omega, by omega⟩ ⟨by omega, by omega⟩ (fun c1 => ?_) (fun c1 => ?_)
      · refine am_lload (q := 63) C dX4_atWith_61 rfl rfl ?_
        refine am_lret C T dX4_atWith_63 rfl (Nat.le_refl _) (Nat.le_refl _) ⟨_, rfl, ?_⟩
        rw [if_neg (by omega)] at h5
        exact ⟨(Int64.add_zero s).symm.trans h5, rfl⟩
      · refine am_iload (q := 21) C dX4_atWith_19 rfl rfl ?_
        refine am_ifZ_lt (q := 24) (tgt := 61) C dX4_atWith_21 (by decide) rfl ⟨by omega, by omega⟩ (fun c2 => ?_) (fun c2 => ?_)
        · refine am_lload (q := 63) C dX4_atWith_61 rfl rfl ?_
          refine am_lret C T dX4_atWith_63 rfl (Nat.le_refl _) (Nat.le_refl _) ⟨_, rfl, ?_⟩
          rw [if_neg (by omega)] at h5
          exact ⟨(Int64.add_zero s).symm.trans h5, rfl⟩
        · refine am_iload (q := 26) C dX4_atWith_24 rfl rfl ?_
          refine am_ifZ_lt (q := 29) (tgt := 61) C dX4_atWith_26 (by decide) rfl ⟨by omega, by omega⟩ (fun c3 => ?_) (fun c3 => ?_)
          · refine am_lload (q := 63) C dX4_atWith_61 rfl rfl ?_
            refine am_lret C T dX4_atWith_63 rfl (Nat.le_refl _) (Nat.le_refl _) ⟨_, rfl, ?_⟩
            rw [if_neg (by omega)] at h5
            exact ⟨(Int64.add_zero s).symm.trans h5, rfl⟩
          · refine am_lload (q := 31) C dX4_atWith_29 rfl rfl ?_
            refine am_aload_n (q := 32) C dX4_atWith_31 rfl rfl ?_
            refine am_iload (q := 34) C dX4_atWith_32 rfl rfl ?_
            refine am_iload (q := 36) C dX4_atWith_34 rfl rfl ?_
            refine am_callV (q := 39) (As := [.int (iZ u), .int (iZ v)]) (rest := [.long s]) C mb_X4_at im_X4_at se_X4_at ml_X4_50 cb_4 kk_174 (show 174 < 215 by decide) dX4_atWith_36 rfl (sp_X4_at hK9 (x := u) (y := v) ⟨by omega, by omega⟩ ⟨by omega, by omega⟩) rfl rfl ⟨by decide, by decide⟩ ⟨Nat.le_refl _, Nat.le_refl _⟩ (Nat.le_of_ble_eq_true rfl) (am_rle ?_)
            refine am_longE (show _ = f u.toNat v.toNat from ?_) ?_
            · rw [if_pos (by omega)]; exact hT u.toNat v.toNat (by omega) (by omega)
            refine am_ladd (q := 40) C dX4_atWith_39 rfl ?_
            refine am_lstore (q := 42) (L' := [some (.ref 174), none, none, some (.int (iZ (a : Int))), some (.int (iZ (b : Int))), some (.long (s + (f u.toNat v.toNat))), none, some (.int (iZ u)), some (.int (iZ v)), some (.int (iZ (k : Int)))]) C dX4_atWith_40 rfl (by decide) rfl rfl ?_
            refine am_iload (q := 44) C dX4_atWith_42 rfl rfl ?_
            refine am_iload_n (q := 45) C dX4_atWith_44 rfl rfl ?_
            refine am_isubZ (q := 46) C dX4_atWith_45 rfl ?_
            refine am_istore (q := 48) (L' := [some (.ref 174), none, none, some (.int (iZ (a : Int))), some (.int (iZ (b : Int))), some (.long (s + (f u.toNat v.toNat))), none, some (.int (iZ (u - (a : Int)))), some (.int (iZ v)), some (.int (iZ (k : Int)))]) C dX4_atWith_46 rfl (by decide) rfl rfl ?_
            refine am_iload (q := 50) C dX4_atWith_48 rfl rfl ?_
            refine am_iload (q := 52) C dX4_atWith_50 rfl rfl ?_
            refine am_isubZ (q := 53) C dX4_atWith_52 rfl ?_
            refine am_istore (q := 55) (L' := [some (.ref 174), none, none, some (.int (iZ (a : Int))), some (.int (iZ (b : Int))), some (.long (s + (f u.toNat v.toNat))), none, some (.int (iZ (u - (a : Int)))), some (.int (iZ (v - (b : Int)))), some (.int (iZ (k : Int)))]) C dX4_atWith_53 rfl (by decide) rfl rfl ?_
            refine am_iincZ (q := 58) (L' := [some (.ref 174), none, none, some (.int (iZ (a : Int))), some (.int (iZ (b : Int))), some (.long (s + (f u.toNat v.toNat))), none, some (.int (iZ (u - (a : Int)))), some (.int (iZ (v - (b : Int)))), some (.int (iZ ((k + 1 : Nat) : Int)))]) C dX4_atWith_55 rfl rfl (by omega) (by decide) rfl rfl ?_
            refine am_goto (q := 12) C dX4_atWith_58 (by decide) ?_
            refine am_wkA (L1 := [some (.ref 174), none, none, some (.int (iZ (a : Int))), some (.int (iZ (b : Int))), some (.long (s + (f u.toNat v.toNat))), none, some (.int (iZ (u - (a : Int)))), some (.int (iZ (v - (b : Int)))), some (.int (iZ ((k + 1 : Nat) : Int)))]) ⟨rfl, ⟨rfl, ⟨rfl, ⟨rfl, ⟨rfl, ⟨rfl, ⟨rfl, trivial⟩⟩⟩⟩⟩⟩⟩ ?_
            exact ih (u - a) (v - b) (k + 1) _ (by omega) (by omega) (by omega) (by omega) (geoF_next hab (by omega) (by omega) h5) (by omega) (by omega)
  refine am_lconst (q := 1) (v := lN 0) C dX4_atWith_0 rfl rfl ?_
  refine am_lstore (q := 3) (L' := [some (.ref 174), some (.int (iZ (x : Int))), some (.int (iZ (y : Int))), some (.int (iZ (a : Int))), some (.int (iZ (b : Int))), some (.long (lN 0)), none, none, none, none]) C dX4_atWith_1 rfl (by decide) rfl rfl ?_
  refine am_iload_n (q := 4) C dX4_atWith_3 rfl rfl ?_
  refine am_istore (q := 6) (L' := [some (.ref 174), some (.int (iZ (x : Int))), some (.int (iZ (y : Int))), some (.int (iZ (a : Int))), some (.int (iZ (b : Int))), some (.long (lN 0)), none, some (.int (iZ (x : Int))), none, none]) C dX4_atWith_4 rfl (by decide) rfl rfl ?_
  refine am_iload_n (q := 7) C dX4_atWith_6 rfl rfl ?_
  refine am_istore (q := 9) (L' := [some (.ref 174), some (.int (iZ (x : Int))), some (.int (iZ (y : Int))), some (.int (iZ (a : Int))), some (.int (iZ (b : Int))), some (.long (lN 0)), none, some (.int (iZ (x : Int))), some (.int (iZ (y : Int))), none]) C dX4_atWith_7 rfl (by decide) rfl rfl ?_
  refine am_iconst (q := 10) (v := iZ 0) C dX4_atWith_9 rfl rfl ?_
  refine am_istore (q := 12) (L' := [some (.ref 174), some (.int (iZ (x : Int))), some (.int (iZ (y : Int))), some (.int (iZ (a : Int))), some (.int (iZ (b : Int))), some (.long (lN 0)), none, some (.int (iZ (x : Int))), some (.int (iZ (y : Int))), some (.int (iZ 0))]) C dX4_atWith_10 rfl (by decide) rfl rfl ?_
  refine am_wkA (L1 := [some (.ref 174), none, none, some (.int (iZ (a : Int))), some (.int (iZ (b : Int))), some (.long (lN 0)), none, some (.int (iZ (x : Int))), some (.int (iZ (y : Int))), some (.int (iZ 0))]) ⟨rfl, ⟨rfl, ⟨rfl, ⟨rfl, ⟨rfl, ⟨rfl, ⟨rfl, trivial⟩⟩⟩⟩⟩⟩⟩ ?_
  exact lp 63 x y 0 0 (by omega) (by omega) (by omega) (by omega) (by rw [if_pos (by omega), Int.toNat_natCast, Int.toNat_natCast]; exact Int64.zero_add _) (by omega) (by omega)
