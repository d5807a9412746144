variable {G : am_G} {Rf : Nat → Nat → Option Nat} {I : Nat → Nat → Int32} {J : Nat → Nat → Int64}
/-- rows as lists -/
theorem up1_get {α : Type} (l : List α) (d : α) (j : Nat) (v : α) (hj : j < l.length) : up1 (fun k => l.getD k d) j v = fun k => (l.set j v).getD k d := by
  funext k
  unfold up1
  by_cases e : k = j
  · rw [if_pos e, e]; simp [hj]
  · rw [if_neg e]; simp [List.getElem?_set, Ne.symm e]
theorem rep_get {α : Type} (d : α) (n : Nat) : (fun _ : Nat => d) = fun k => (List.replicate n d).getD k d := by
  funext k
  by_cases e : k < n
  · simp [e]
  · simp [e]
theorem am_upR {α : Type} (f : Nat → Nat → α) (h k : Nat) (v : α) : am_up f h k v h = up1 (f h) k v := by
  funext j
  unfold am_up up1
  rw [if_pos rfl]
/-- ints and longs of the first hour that are not 0 -/
def i0L (h : Nat) : List Int32 := if h = 0 then [0, 0, 0, 0, 0, 0, 0, 0, 0, 0, 0, 0, 1, 1] else if h = 169 then [0, 0, 0, 0, 0, 1] else if h = 174 then [0, -1, -1] else if h = 176 then [0, -1, -1] else if h = 183 ∨ h = 185 ∨ h = 187 ∨ h = 189 then [0, -1, 0] else if h = 191 then [0, 1] else if h = 212 then [-1, -1, -1, -1] else []
def i0 (h k : Nat) : Int32 := (i0L h).getD k 0
def j0 (h k : Nat) : Int64 := ((if h = 165 then [0, 0, 0, 0, 0, 0, 2305843009213693951] else [] : List Int64)).getD k 0
abbrev zR : Nat → Option Nat := fun _ => none
abbrev zI : Nat → Int32 := fun _ => 0
abbrev zJ : Nat → Int64 := fun _ => 0
def fre (N : Nat) (Rf : Nat → Nat → Option Nat) (I : Nat → Nat → Int32) (J : Nat → Nat → Int64) : Prop := ∀ x, N ≤ x → Rf x = zR ∧ I x = zI ∧ J x = zJ
def lay (h e : Nat) (Rf : Nat → Nat → Option Nat) (I : Nat → Nat → Int32) (J : Nat → Nat → Int64) (Rf' : Nat → Nat → Option Nat) (I' : Nat → Nat → Int32) (J' : Nat → Nat → Int64) : Prop := (∀ x, x < h → Rf' x = Rf x ∧ I' x = I x ∧ J' x = J x) ∧ (∀ x, h ≤ x → x < e → Rf' x = kR x ∧ I' x = i0 x ∧ J' x = j0 x) ∧ fre e Rf' I' J'
theorem i0_z {h : Nat} (hh : i0L h = []) : i0 h = zI := by funext k; unfold i0; rw [hh]; rfl
theorem j0_z {h : Nat} (hh : h ≠ 165) : j0 h = zJ := by funext k; unfold j0; rw [if_neg hh]; rfl
theorem kR_z {h : Nat} (hh : rl.getD h [] = []) : kR h = zR := by funext k; unfold kR; rw [hh]; rfl
theorem kR_l {h : Nat} {l : List (Option Nat)} (hh : rl.getD h [] = l) : kR h = fun k => l.getD k none := by funext k; unfold kR; rw [hh]
theorem i0_l {h : Nat} {l : List Int32} (hh : i0L h = l) : i0 h = fun k => l.getD k 0 := by funext k; unfold i0; rw [hh]
theorem up1_zero (j : Nat) : up1 zI j (iZ 0) = zI := by
  funext k
  unfold up1
  split <;> rfl
abbrev isN (h : Nat) : Prop := kK h = (5, 0) ∧ kK (h + 1) = (20, 6) ∧ kK (h + 2) = (20, 6) ∧ kK (h + 3) = (20, 6) ∧ kK (h + 4) = (21, 6) ∧ rl.getD h [] = [some (h + 1), some (h + 2), some (h + 3), some (h + 4), none] ∧ (rl.getD (h + 1) [] = [] ∧ rl.getD (h + 2) [] = [] ∧ rl.getD (h + 3) [] = [] ∧ rl.getD (h + 4) [] = []) ∧ (i0L h = [] ∧ i0L (h + 1) = [] ∧ i0L (h + 2) = [] ∧ i0L (h + 3) = [] ∧ i0L (h + 4) = []) ∧ h + 4 < 165
abbrev isSh (h : Nat) : Prop := kK h = (7, 0) ∧ kK (h + 1) = (21, 60) ∧ rl.getD h [] = [some (h + 1), none, none] ∧ rl.getD (h + 1) [] = [] ∧ i0L h = [0, -1, 0] ∧ i0L (h + 1) = [] ∧ 165 < h ∧ h < 1000
theorem isN_1 : isN 1 := by decide +kernel
theorem isN_6 : isN 6 := by decide +kernel
theorem isN_of : ∀ i, i < 30 → isN (13 + 5 * i) := by decide +kernel
theorem isSh_of : ∀ i, i < 4 → isSh (183 + 2 * i) := by decide +kernel
set_option maxRecDepth 8000 in
theorem sp_X5_init {h : Nat} (hN : isN h) (hf : fre h Rf I J) : am_S G mX5_init 1 4 24 [.ref h] (h + 1, kK, Rf, I, J) (am_qv (fun w' => ∃ (Rf' : Nat → Nat → Option Nat) (I' : Nat → Nat → Int32) (J' : Nat → Nat → Int64), w' = (h + 5, kK, Rf', I', J') ∧ lay h (h + 5) Rf I J Rf' I' J')) := by
  obtain ⟨k0, k1, k2, k3, k4, r0, ⟨r1, r2, r3, r4⟩, ⟨i1, i2, i3, i4, i5⟩, hlt⟩ := hN
  refine am_spec (plainFor_of_name (by decide +kernel)) (Nat.le_of_ble_eq_true rfl) (L := [some (.ref h)]) rfl (fun X C T => ?_)
  refine am_aload_n (q := 1) C dX5_init_0 rfl rfl ?_
  refine am_objInit (q := 4) C ml_X5_3 oi_inst oi_code dX5_init_1 rfl (by decide) (by decide) (Nat.le_of_ble_eq_true rfl) ?_
  refine am_aload_n (q := 5) C dX5_init_4 rfl rfl ?_
  refine am_bipush (q := 7) (v := iZ 6) C dX5_init_5 rfl rfl ?_
  refine am_newa (q := 9) (t := 0) (Na := 6) C ia_int rfl rfl (fun _ => rfl) (by decide) dX5_init_7 rfl k1 (by decide +kernel) (by decide) (fun k => ⟨by exact congrFun (hf (h + 1) (by omega)).2.1 k, by exact congrFun (hf (h + 1) (by omega)).2.2 k, by exact congrFun (hf (h + 1) (by omega)).1 k⟩) (by omega) (Nat.le_of_ble_eq_true rfl) (Nat.le_of_ble_eq_true rfl) ?_
  refine am_putF (q := 12) C ff_X5_9 rfl dX5_init_9 rfl rfl k0 (by omega) ?_
  refine am_aload_n (q := 13) C dX5_init_12 rfl rfl ?_
  refine am_bipush (q := 15) (v := iZ 6) C dX5_init_13 rfl rfl ?_
  refine am_newa (q := 17) (t := 0) (Na := 6) C ia_int rfl rfl (fun _ => rfl) (by decide) dX5_init_15 rfl k2 (by decide +kernel) (by decide) (fun k => ⟨by exact congrFun (hf (h + 2) (by omega)).2.1 k, by exact congrFun (hf (h + 2) (by omega)).2.2 k, by rw [am_up_row _ _ _ _ (by omega)]; exact congrFun (hf (h + 2) (by omega)).1 k⟩) (by omega) (Nat.le_of_ble_eq_true rfl) (Nat.le_of_ble_eq_true rfl) ?_
  refine am_putF (q := 20) C ff_X5_15 rfl dX5_init_17 rfl rfl k0 (by omega) ?_
  refine am_aload_n (q := 21) C dX5_init_20 rfl rfl ?_
  refine am_bipush (q := 23) (v := iZ 6) C dX5_init_21 rfl rfl ?_
  refine am_newa (q := 25) (t := 0) (Na := 6) C ia_int rfl rfl (fun _ => rfl) (by decide) dX5_init_23 rfl k3 (by decide +kernel) (by decide) (fun k => ⟨by exact congrFun (hf (h + 3) (by omega)).2.1 k, by exact congrFun (hf (h + 3) (by omega)).2.2 k, by rw [am_up_row _ _ _ _ (by omega), am_up_row _ _ _ _ (by omega)]; exact congrFun (hf (h + 3) (by omega)).1 k⟩) (by omega) (Nat.le_of_ble_eq_true rfl) (Nat.le_of_ble_eq_true rfl) ?_
  refine am_putF (q := 28) C ff_X5_18 rfl dX5_init_25 rfl rfl k0 (by omega) ?_
  refine am_aload_n (q := 29) C dX5_init_28 rfl rfl ?_
  refine am_bipush (q := 31) (v := iZ 6) C dX5_init_29 rfl rfl ?_
  refine am_newa (q := 33) (t := 1) (Na := 6) C ia_long rfl rfl (fun _ => rfl) (by decide) dX5_init_31 rfl k4 (by decide +kernel) (by decide) (fun k => ⟨by exact congrFun (hf (h + 4) (by omega)).2.1 k, by exact congrFun (hf (h + 4) (by omega)).2.2 k, by rw [am_up_row _ _ _ _ (by omega), am_up_row _ _ _ _ (by omega), am_up_row _ _ _ _ (by omega)]; exact congrFun (hf (h + 4) (by omega)).1 k⟩) (by omega) (Nat.le_of_ble_eq_true rfl) (Nat.le_of_ble_eq_true rfl) ?_
  refine am_putF (q := 36) C ff_X5_21 rfl dX5_init_33 rfl rfl k0 (by omega) ?_
  refine am_aload_n (q := 37) C dX5_init_36 rfl rfl ?_
  refine am_iconst (q := 38) (v := iZ 0) C dX5_init_37 rfl rfl ?_
  refine am_putI (q := 41) C fw_X5_25 dX5_init_38 rfl rfl k0 (by omega) ?_
  refine am_vret C T dX5_init_41 rfl (Nat.le_of_ble_eq_true rfl) (Nat.le_of_ble_eq_true rfl) ⟨rfl, _, _, _, rfl, ?_⟩
  refine ⟨fun x hx => ⟨by rw [am_up_row _ _ _ _ (by omega), am_up_row _ _ _ _ (by omega), am_up_row _ _ _ _ (by omega), am_up_row _ _ _ _ (by omega)], by rw [am_up_row _ _ _ _ (by omega)], rfl⟩, fun x h1 h2 => ?_, fun x hx => ⟨by rw [am_up_row _ _ _ _ (by omega), am_up_row _ _ _ _ (by omega), am_up_row _ _ _ _ (by omega), am_up_row _ _ _ _ (by omega)]; exact (hf x (by omega)).1, by rw [am_up_row _ _ _ _ (by omega)]; exact (hf x (by omega)).2.1, (hf x (by omega)).2.2⟩⟩
  rcases (show x = h ∨ x = h + 1 ∨ x = h + 2 ∨ x = h + 3 ∨ x = h + 4 by omega) with e9 | e9 | e9 | e9 | e9
  · rw [e9]; clear h1 h2 e9; refine ⟨?_, ?_, ?_⟩
    · rw [am_upR, am_upR, am_upR, am_upR, (hf h (by omega)).1, kR_l r0, show zR = _ from rep_get none 5, up1_get _ _ _ _ (Nat.le_of_ble_eq_true rfl), up1_get _ _ _ _ (Nat.le_of_ble_eq_true rfl), up1_get _ _ _ _ (Nat.le_of_ble_eq_true rfl), up1_get _ _ _ _ (Nat.le_of_ble_eq_true rfl)]; first | done | rfl
    · rw [am_upR, (hf h (by omega)).2.1, up1_zero]; exact (i0_z i1).symm
    · exact (hf h (by omega)).2.2.trans (j0_z (by omega)).symm
  · rw [e9]; clear h1 h2 e9; refine ⟨?_, ?_, ?_⟩
    · rw [am_up_row _ _ _ _ (by omega), am_up_row _ _ _ _ (by omega), am_up_row _ _ _ _ (by omega), am_up_row _ _ _ _ (by omega)]; exact (hf (h + 1) (by omega)).1.trans (kR_z r1).symm
    · rw [am_up_row _ _ _ _ (by omega), (hf (h + 1) (by omega)).2.1]; exact (i0_z i2).symm
    · exact (hf (h + 1) (by omega)).2.2.trans (j0_z (by omega)).symm
  · rw [e9]; clear h1 h2 e9; refine ⟨?_, ?_, ?_⟩
    · rw [am_up_row _ _ _ _ (by omega), am_up_row _ _ _ _ (by omega), am_up_row _ _ _ _ (by omega), am_up_row _ _ _ _ (by omega)]; exact (hf (h + 2) (by omega)).1.trans (kR_z r2).symm
    · rw [am_up_row _ _ _ _ (by omega), (hf (h + 2) (by omega)).2.1]; exact (i0_z i3).symm
    · exact (hf (h + 2) (by omega)).2.2.trans (j0_z (by omega)).symm
  · rw [e9]; clear h1 h2 e9; refine ⟨?_, ?_, ?_⟩
    · rw [am_up_row _ _ _ _ (by omega), am_up_row _ _ _ _ (by omega), am_up_row _ _ _ _ (by omega), am_up_row _ _ _ _ (by omega)]; exact (hf (h + 3) (by omega)).1.trans (kR_z r3).symm
    · rw [am_up_row _ _ _ _ (by omega), (hf (h + 3) (by omega)).2.1]; exact (i0_z i4).symm
    · exact (hf (h + 3) (by omega)).2.2.trans (j0_z (by omega)).symm
  · rw [e9]; clear h1 h2 e9; refine ⟨?_, ?_, ?_⟩
    · rw [am_up_row _ _ _ _ (by omega), am_up_row _ _ _ _ (by omega), am_up_row _ _ _ _ (by omega), am_up_row _ _ _ _ (by omega)]; exact (hf (h + 4) (by omega)).1.trans (kR_z r4).symm
    · rw [am_up_row _ _ _ _ (by omega), (hf (h + 4) (by omega)).2.1]; exact (i0_z i5).symm
    · exact (hf (h + 4) (by omega)).2.2.trans (j0_z (by omega)).symm
set_option maxRecDepth 8000 in
theorem sp_X7_init {h : Nat} (hN : isSh h) (hf : fre h Rf I J) : am_S G mX7_init 1 1 60 [.ref h] (h + 1, kK, Rf, I, J) (am_qv (fun w' => ∃ (Rf' : Nat → Nat → Option Nat) (I' : Nat → Nat → Int32) (J' : Nat → Nat → Int64), w' = (h + 2, kK, Rf', I', J') ∧ lay h (h + 2) Rf I J Rf' I' J')) := by
  obtain ⟨k0, k1, r0, r1, i1, i2, hlt, hlt2⟩ := hN
  refine am_spec (plainFor_of_name (by decide +kernel)) (Nat.le_of_ble_eq_true rfl) (L := [some (.ref h)]) rfl (fun X C T => ?_)
  refine am_aload_n (q := 1) C dX7_init_0 rfl rfl ?_
  refine am_objInit (q := 4) C ml_X7_3 oi_inst oi_code dX7_init_1 rfl (by decide) (by decide) (Nat.le_of_ble_eq_true rfl) ?_
  refine am_aload_n (q := 5) C dX7_init_4 rfl rfl ?_
  refine am_bipush (q := 7) (v := iZ 60) C dX7_init_5 rfl rfl ?_
  refine am_newa (q := 9) (t := 1) (Na := 60) C ia_long rfl rfl (fun _ => rfl) (by decide) dX7_init_7 rfl k1 (by decide +kernel) (by decide) (fun k => ⟨by exact congrFun (hf (h + 1) (by omega)).2.1 k, by exact congrFun (hf (h + 1) (by omega)).2.2 k, by exact congrFun (hf (h + 1) (by omega)).1 k⟩) (by omega) (Nat.le_of_ble_eq_true rfl) (Nat.le_of_ble_eq_true rfl) ?_
  refine am_putF (q := 12) C ff_X7_9 rfl dX7_init_9 rfl rfl k0 (by omega) ?_
  refine am_aload_n (q := 13) C dX7_init_12 rfl rfl ?_
  refine am_iconst (q := 14) (v := iZ (-1)) C dX7_init_13 rfl rfl ?_
  refine am_putI (q := 17) C fw_X7_15 dX7_init_14 rfl rfl k0 (by omega) ?_
  refine am_aload_n (q := 18) C dX7_init_17 rfl rfl ?_
  refine am_iconst (q := 19) (v := iZ 0) C dX7_init_18 rfl rfl ?_
  refine am_putI (q := 22) C fw_X7_19 dX7_init_19 rfl rfl k0 (by omega) ?_
  refine am_vret C T dX7_init_22 rfl (Nat.le_of_ble_eq_true rfl) (Nat.le_of_ble_eq_true rfl) ⟨rfl, _, _, _, rfl, ?_⟩
  refine ⟨fun x hx => ⟨by rw [am_up_row _ _ _ _ (by omega)], by rw [am_up_row _ _ _ _ (by omega), am_up_row _ _ _ _ (by omega)], rfl⟩, fun x h1 h2 => ?_, fun x hx => ⟨by rw [am_up_row _ _ _ _ (by omega)]; exact (hf x (by omega)).1, by rw [am_up_row _ _ _ _ (by omega), am_up_row _ _ _ _ (by omega)]; exact (hf x (by omega)).2.1, (hf x (by omega)).2.2⟩⟩
  rcases (show x = h ∨ x = h + 1 by omega) with e9 | e9
  · rw [e9]; clear h1 h2 e9; refine ⟨?_, ?_, ?_⟩
    · rw [am_upR, (hf h (by omega)).1, kR_l r0, show zR = _ from rep_get none 3, up1_get _ _ _ _ (Nat.le_of_ble_eq_true rfl)]; first | done | rfl
    · rw [am_upR, am_upR, (hf h (by omega)).2.1, i0_l i1, show zI = _ from rep_get 0 3, up1_get _ _ _ _ (Nat.le_of_ble_eq_true rfl), up1_get _ _ _ _ (Nat.le_of_ble_eq_true rfl)]; first | done | exact congrArg (fun (l : List Int32) (k : Nat) => l.getD k 0) (by decide +kernel)
    · exact (hf h (by omega)).2.2.trans (j0_z (by omega)).symm
  · rw [e9]; clear h1 h2 e9; refine ⟨?_, ?_, ?_⟩
    · rw [am_up_row _ _ _ _ (by omega)]; exact (hf (h + 1) (by omega)).1.trans (kR_z r1).symm
    · rw [am_up_row _ _ _ _ (by omega), am_up_row _ _ _ _ (by omega), (hf (h + 1) (by omega)).2.1]; exact (i0_z i2).symm
    · exact (hf (h + 1) (by omega)).2.2.trans (j0_z (by omega)).symm
set_option maxRecDepth 8000 in
theorem sp_X8_init (hf : fre 163 Rf I J) : am_S G mX8_init 1 1 100 [.ref 163] (163 + 1, kK, Rf, I, J) (am_qv (fun w' => ∃ (Rf' : Nat → Nat → Option Nat) (I' : Nat → Nat → Int32) (J' : Nat → Nat → Int64), w' = (165, kK, Rf', I', J') ∧ lay 163 (165) Rf I J Rf' I' J')) := by
  refine am_spec (plainFor_of_name (by decide +kernel)) (Nat.le_of_ble_eq_true rfl) (L := [some (.ref 163)]) rfl (fun X C T => ?_)
  refine am_aload_n (q := 1) C dX8_init_0 rfl rfl ?_
  refine am_objInit (q := 4) C ml_X8_3 oi_inst oi_code dX8_init_1 rfl (by decide) (by decide) (Nat.le_of_ble_eq_true rfl) ?_
  refine am_aload_n (q := 5) C dX8_init_4 rfl rfl ?_
  refine am_bipush (q := 7) (v := iZ 100) C dX8_init_5 rfl rfl ?_
  refine am_newa (q := 9) (t := 2) (Na := 100) C ia_byte rfl rfl (fun _ => rfl) (by decide) dX8_init_7 rfl (show kK 164 = (22, 100) by decide +kernel) (by decide +kernel) (by decide) (fun k => ⟨by exact congrFun (hf 164 (by omega)).2.1 k, by exact congrFun (hf 164 (by omega)).2.2 k, by exact congrFun (hf 164 (by omega)).1 k⟩) (by omega) (Nat.le_of_ble_eq_true rfl) (Nat.le_of_ble_eq_true rfl) ?_
  refine am_putF (q := 12) C ff_X8_9 rfl dX8_init_9 rfl rfl (show kK 163 = (8, 0) by decide +kernel) (by omega) ?_
  refine am_aload_n (q := 13) C dX8_init_12 rfl rfl ?_
  refine am_iconst (q := 14) (v := iZ 0) C dX8_init_13 rfl rfl ?_
  refine am_putI (q := 17) C fw_X8_15 dX8_init_14 rfl rfl (show kK 163 = (8, 0) by decide +kernel) (by omega) ?_
  refine am_aload_n (q := 18) C dX8_init_17 rfl rfl ?_
  refine am_iconst (q := 19) (v := iZ 0) C dX8_init_18 rfl rfl ?_
  refine am_putI (q := 22) C fw_X8_19 dX8_init_19 rfl rfl (show kK 163 = (8, 0) by decide +kernel) (by omega) ?_
  refine am_aload_n (q := 23) C dX8_init_22 rfl rfl ?_
  refine am_iconst (q := 24) (v := iZ 0) C dX8_init_23 rfl rfl ?_
  refine am_putI (q := 27) C fw_X8_22 dX8_init_24 rfl rfl (show kK 163 = (8, 0) by decide +kernel) (by omega) ?_
  refine am_vret C T dX8_init_27 rfl (Nat.le_of_ble_eq_true rfl) (Nat.le_of_ble_eq_true rfl) ⟨rfl, _, _, _, rfl, ?_⟩
  refine ⟨fun x hx => ⟨by rw [am_up_row _ _ _ _ (by omega)], by rw [am_up_row _ _ _ _ (by omega), am_up_row _ _ _ _ (by omega), am_up_row _ _ _ _ (by omega)], rfl⟩, fun x h1 h2 => ?_, fun x hx => ⟨by rw [am_up_row _ _ _ _ (by omega)]; exact (hf x (by omega)).1, by rw [am_up_row _ _ _ _ (by omega), am_up_row _ _ _ _ (by omega), am_up_row _ _ _ _ (by omega)]; exact (hf x (by omega)).2.1, (hf x (by omega)).2.2⟩⟩
  rcases (show x = 163 ∨ x = 164 by omega) with e9 | e9
  · rw [e9]; clear h1 h2 e9; refine ⟨?_, ?_, ?_⟩
    · rw [am_upR, (hf 163 (by omega)).1, kR_l (show rl.getD 163 [] = [some 164, none, none, none] by decide +kernel), show zR = _ from rep_get none 4, up1_get _ _ _ _ (Nat.le_of_ble_eq_true rfl)]; first | done | rfl
    · rw [am_upR, am_upR, am_upR, (hf 163 (by omega)).2.1, up1_zero, up1_zero, up1_zero]; exact (i0_z (by decide +kernel)).symm
    · exact (hf 163 (by omega)).2.2.trans (j0_z (by omega)).symm
  · rw [e9]; clear h1 h2 e9; refine ⟨?_, ?_, ?_⟩
    · rw [am_up_row _ _ _ _ (by omega)]; exact (hf 164 (by omega)).1.trans (kR_z (by decide +kernel)).symm
    · rw [am_up_row _ _ _ _ (by omega), am_up_row _ _ _ _ (by omega), am_up_row _ _ _ _ (by omega), (hf 164 (by omega)).2.1]; exact (i0_z (by decide +kernel)).symm
    · exact (hf 164 (by omega)).2.2.trans (j0_z (by omega)).symm
set_option maxRecDepth 8000 in
theorem sp_X6_init (hf : fre 165 Rf I J) : am_S G mX6_init 1 3 15 [.ref 165] (165 + 1, kK, Rf, I, J) (am_qv (fun w' => ∃ (Rf' : Nat → Nat → Option Nat) (I' : Nat → Nat → Int32) (J' : Nat → Nat → Int64), w' = (169, kK, Rf', I', J') ∧ lay 165 (169) Rf I J Rf' I' J')) := by
  refine am_spec (plainFor_of_name (by decide +kernel)) (Nat.le_of_ble_eq_true rfl) (L := [some (.ref 165)]) rfl (fun X C T => ?_)
  refine am_aload_n (q := 1) C dX6_init_0 rfl rfl ?_
  refine am_objInit (q := 4) C ml_X6_3 oi_inst oi_code dX6_init_1 rfl (by decide) (by decide) (Nat.le_of_ble_eq_true rfl) ?_
  refine am_aload_n (q := 5) C dX6_init_4 rfl rfl ?_
  refine am_iconst (q := 6) (v := iZ 5) C dX6_init_5 rfl rfl ?_
  refine am_newa (q := 8) (t := 1) (Na := 5) C ia_long rfl rfl (fun _ => rfl) (by decide) dX6_init_6 rfl (show kK 166 = (21, 5) by decide +kernel) (by decide +kernel) (by decide) (fun k => ⟨by exact congrFun (hf 166 (by omega)).2.1 k, by exact congrFun (hf 166 (by omega)).2.2 k, by exact congrFun (hf 166 (by omega)).1 k⟩) (by omega) (Nat.le_of_ble_eq_true rfl) (Nat.le_of_ble_eq_true rfl) ?_
  refine am_putF (q := 11) C ff_X6_9 rfl dX6_init_8 rfl rfl (show kK 165 = (6, 0) by decide +kernel) (by omega) ?_
  refine am_aload_n (q := 12) C dX6_init_11 rfl rfl ?_
  refine am_iconst (q := 13) (v := iZ 5) C dX6_init_12 rfl rfl ?_
  refine am_newa (q := 15) (t := 1) (Na := 5) C ia_long rfl rfl (fun _ => rfl) (by decide) dX6_init_13 rfl (show kK 167 = (21, 5) by decide +kernel) (by decide +kernel) (by decide) (fun k => ⟨by exact congrFun (hf 167 (by omega)).2.1 k, by exact congrFun (hf 167 (by omega)).2.2 k, by rw [am_up_row _ _ _ _ (by omega)]; exact congrFun (hf 167 (by omega)).1 k⟩) (by omega) (Nat.le_of_ble_eq_true rfl) (Nat.le_of_ble_eq_true rfl) ?_
  refine am_putF (q := 18) C ff_X6_15 rfl dX6_init_15 rfl rfl (show kK 165 = (6, 0) by decide +kernel) (by omega) ?_
  refine am_aload_n (q := 19) C dX6_init_18 rfl rfl ?_
  refine am_iconst (q := 20) (v := iZ 5) C dX6_init_19 rfl rfl ?_
  refine am_newa (q := 22) (t := 3) (Na := 5) C ia_boolean rfl rfl (fun _ => rfl) (by decide) dX6_init_20 rfl (show kK 168 = (23, 5) by decide +kernel) (by decide +kernel) (by decide) (fun k => ⟨by exact congrFun (hf 168 (by omega)).2.1 k, by exact congrFun (hf 168 (by omega)).2.2 k, by rw [am_up_row _ _ _ _ (by omega), am_up_row _ _ _ _ (by omega)]; exact congrFun (hf 168 (by omega)).1 k⟩) (by omega) (Nat.le_of_ble_eq_true rfl) (Nat.le_of_ble_eq_true rfl) ?_
  refine am_putF (q := 25) C ff_X6_18 rfl dX6_init_22 rfl rfl (show kK 165 = (6, 0) by decide +kernel) (by omega) ?_
  refine am_aload_n (q := 26) C dX6_init_25 rfl rfl ?_
  refine am_iconst (q := 27) (v := iZ 0) C dX6_init_26 rfl rfl ?_
  refine am_putI (q := 30) C fw_X6_22 dX6_init_27 rfl rfl (show kK 165 = (6, 0) by decide +kernel) (by omega) ?_
  refine am_aload_n (q := 31) C dX6_init_30 rfl rfl ?_
  refine am_iconst (q := 32) (v := iZ 0) C dX6_init_31 rfl rfl ?_
  refine am_putI (q := 35) C fw_X6_26 dX6_init_32 rfl rfl (show kK 165 = (6, 0) by decide +kernel) (by omega) ?_
  refine am_aload_n (q := 36) C dX6_init_35 rfl rfl ?_
  refine am_iconst (q := 37) (v := iZ 0) C dX6_init_36 rfl rfl ?_
  refine am_putI (q := 40) C fw_X6_29 dX6_init_37 rfl rfl (show kK 165 = (6, 0) by decide +kernel) (by omega) ?_
  refine am_aload_n (q := 41) C dX6_init_40 rfl rfl ?_
  refine am_ldc2 (q := 44) C dX6_init_41 rfl ck_X6_32 ?_
  refine am_longE (y := lN 2305843009213693951) rfl ?_
  refine am_putJ (q := 47) C fw_X6_34 dX6_init_44 rfl rfl (show kK 165 = (6, 0) by decide +kernel) (by omega) ?_
  refine am_vret C T dX6_init_47 rfl (Nat.le_of_ble_eq_true rfl) (Nat.le_of_ble_eq_true rfl) ⟨rfl, _, _, _, rfl, ?_⟩
  refine ⟨fun x hx => ⟨by rw [am_up_row _ _ _ _ (by omega), am_up_row _ _ _ _ (by omega), am_up_row _ _ _ _ (by omega)], by rw [am_up_row _ _ _ _ (by omega), am_up_row _ _ _ _ (by omega), am_up_row _ _ _ _ (by omega)], by rw [am_up_row _ _ _ _ (by omega)]⟩, fun x h1 h2 => ?_, fun x hx => ⟨by rw [am_up_row _ _ _ _ (by omega), am_up_row _ _ _ _ (by omega), am_up_row _ _ _ _ (by omega)]; exact (hf x (by omega)).1, by rw [am_up_row _ _ _ _ (by omega), am_up_row _ _ _ _ (by omega), am_up_row _ _ _ _ (by omega)]; exact (hf x (by omega)).2.1, by rw [am_up_row _ _ _ _ (by omega)]; exact (hf x (by omega)).2.2⟩⟩
  rcases (show x = 165 ∨ x = 166 ∨ x = 167 ∨ x = 168 by omega) with e9 | e9 | e9 | e9
  · rw [e9]; clear h1 h2 e9; refine ⟨?_, ?_, ?_⟩
    · rw [am_upR, am_upR, am_upR, (hf 165 (by omega)).1, kR_l (show rl.getD 165 [] = [some 166, some 167, some 168, none, none, none, none] by decide +kernel), show zR = _ from rep_get none 7, up1_get _ _ _ _ (Nat.le_of_ble_eq_true rfl), up1_get _ _ _ _ (Nat.le_of_ble_eq_true rfl), up1_get _ _ _ _ (Nat.le_of_ble_eq_true rfl)]; first | done | rfl
    · rw [am_upR, am_upR, am_upR, (hf 165 (by omega)).2.1, up1_zero, up1_zero, up1_zero]; exact (i0_z (by decide +kernel)).symm
    · rw [am_upR, (hf 165 (by omega)).2.2]; funext k; unfold up1 j0; rw [if_pos rfl]; by_cases e : k = 6; · rw [if_pos e, e]; rfl
      · rw [if_neg e]; rcases (show k = 0 ∨ k = 1 ∨ k = 2 ∨ k = 3 ∨ k = 4 ∨ k = 5 ∨ 7 ≤ k by omega) with e | e | e | e | e | e | e <;> first | (subst e; rfl) | (obtain ⟨q, rfl⟩ : ∃ q, k = q + 7 := ⟨k - 7, by omega⟩; rfl)
  · rw [e9]; clear h1 h2 e9; refine ⟨?_, ?_, ?_⟩
    · rw [am_up_row _ _ _ _ (by omega), am_up_row _ _ _ _ (by omega), am_up_row _ _ _ _ (by omega)]; exact (hf 166 (by omega)).1.trans (kR_z (by decide +kernel)).symm
    · rw [am_up_row _ _ _ _ (by omega), am_up_row _ _ _ _ (by omega), am_up_row _ _ _ _ (by omega), (hf 166 (by omega)).2.1]; exact (i0_z (by decide +kernel)).symm
    · rw [am_up_row _ _ _ _ (by omega)]; exact (hf 166 (by omega)).2.2.trans (j0_z (by omega)).symm
  · rw [e9]; clear h1 h2 e9; refine ⟨?_, ?_, ?_⟩
    · rw [am_up_row _ _ _ _ (by omega), am_up_row _ _ _ _ (by omega), am_up_row _ _ _ _ (by omega)]; exact (hf 167 (by omega)).1.trans (kR_z (by decide +kernel)).symm
    · rw [am_up_row _ _ _ _ (by omega), am_up_row _ _ _ _ (by omega), am_up_row _ _ _ _ (by omega), (hf 167 (by omega)).2.1]; exact (i0_z (by decide +kernel)).symm
    · rw [am_up_row _ _ _ _ (by omega)]; exact (hf 167 (by omega)).2.2.trans (j0_z (by omega)).symm
  · rw [e9]; clear h1 h2 e9; refine ⟨?_, ?_, ?_⟩
    · rw [am_up_row _ _ _ _ (by omega), am_up_row _ _ _ _ (by omega), am_up_row _ _ _ _ (by omega)]; exact (hf 168 (by omega)).1.trans (kR_z (by decide +kernel)).symm
    · rw [am_up_row _ _ _ _ (by omega), am_up_row _ _ _ _ (by omega), am_up_row _ _ _ _ (by omega), (hf 168 (by omega)).2.1]; exact (i0_z (by decide +kernel)).symm
    · rw [am_up_row _ _ _ _ (by omega)]; exact (hf 168 (by omega)).2.2.trans (j0_z (by omega)).symm
set_option maxRecDepth 8000 in
theorem sp_X1_init (hf : fre 169 Rf I J) : am_S G mX1_init 1 4 24 [.ref 169] (169 + 1, kK, Rf, I, J) (am_qv (fun w' => ∃ (Rf' : Nat → Nat → Option Nat) (I' : Nat → Nat → Int32) (J' : Nat → Nat → Int64), w' = (174, kK, Rf', I', J') ∧ lay 169 (174) Rf I J Rf' I' J')) := by
  refine am_spec (plainFor_of_name (by decide +kernel)) (Nat.le_of_ble_eq_true rfl) (L := [some (.ref 169)]) rfl (fun X C T => ?_)
  refine am_aload_n (q := 1) C dX1_init_0 rfl rfl ?_
  refine am_objInit (q := 4) C ml_X1_3 oi_inst oi_code dX1_init_1 rfl (by decide) (by decide) (Nat.le_of_ble_eq_true rfl) ?_
  refine am_aload_n (q := 5) C dX1_init_4 rfl rfl ?_
  refine am_bipush (q := 7) (v := iZ 6) C dX1_init_5 rfl rfl ?_
  refine am_newa (q := 9) (t := 0) (Na := 6) C ia_int rfl rfl (fun _ => rfl) (by decide) dX1_init_7 rfl (show kK 170 = (20, 6) by decide +kernel) (by decide +kernel) (by decide) (fun k => ⟨by exact congrFun (hf 170 (by omega)).2.1 k, by exact congrFun (hf 170 (by omega)).2.2 k, by exact congrFun (hf 170 (by omega)).1 k⟩) (by omega) (Nat.le_of_ble_eq_true rfl) (Nat.le_of_ble_eq_true rfl) ?_
  refine am_putF (q := 12) C ff_X1_9 rfl dX1_init_9 rfl rfl (show kK 169 = (1, 0) by decide +kernel) (by omega) ?_
  refine am_aload_n (q := 13) C dX1_init_12 rfl rfl ?_
  refine am_bipush (q := 15) (v := iZ 6) C dX1_init_13 rfl rfl ?_
  refine am_newa (q := 17) (t := 0) (Na := 6) C ia_int rfl rfl (fun _ => rfl) (by decide) dX1_init_15 rfl (show kK 171 = (20, 6) by decide +kernel) (by decide +kernel) (by decide) (fun k => ⟨by exact congrFun (hf 171 (by omega)).2.1 k, by exact congrFun (hf 171 (by omega)).2.2 k, by rw [am_up_row _ _ _ _ (by omega)]; exact congrFun (hf 171 (by omega)).1 k⟩) (by omega) (Nat.le_of_ble_eq_true rfl) (Nat.le_of_ble_eq_true rfl) ?_
  refine am_putF (q := 20) C ff_X1_15 rfl dX1_init_17 rfl rfl (show kK 169 = (1, 0) by decide +kernel) (by omega) ?_
  refine am_aload_n (q := 21) C dX1_init_20 rfl rfl ?_
  refine am_bipush (q := 23) (v := iZ 6) C dX1_init_21 rfl rfl ?_
  refine am_newa (q := 25) (t := 0) (Na := 6) C ia_int rfl rfl (fun _ => rfl) (by decide) dX1_init_23 rfl (show kK 172 = (20, 6) by decide +kernel) (by decide +kernel) (by decide) (fun k => ⟨by exact congrFun (hf 172 (by omega)).2.1 k, by exact congrFun (hf 172 (by omega)).2.2 k, by rw [am_up_row _ _ _ _ (by omega), am_up_row _ _ _ _ (by omega)]; exact congrFun (hf 172 (by omega)).1 k⟩) (by omega) (Nat.le_of_ble_eq_true rfl) (Nat.le_of_ble_eq_true rfl) ?_
  refine am_putF (q := 28) C ff_X1_18 rfl dX1_init_25 rfl rfl (show kK 169 = (1, 0) by decide +kernel) (by omega) ?_
  refine am_aload_n (q := 29) C dX1_init_28 rfl rfl ?_
  refine am_bipush (q := 31) (v := iZ 6) C dX1_init_29 rfl rfl ?_
  refine am_newa (q := 33) (t := 0) (Na := 6) C ia_int rfl rfl (fun _ => rfl) (by decide) dX1_init_31 rfl (show kK 173 = (20, 6) by decide +kernel) (by decide +kernel) (by decide) (fun k => ⟨by exact congrFun (hf 173 (by omega)).2.1 k, by exact congrFun (hf 173 (by omega)).2.2 k, by rw [am_up_row _ _ _ _ (by omega), am_up_row _ _ _ _ (by omega), am_up_row _ _ _ _ (by omega)]; exact congrFun (hf 173 (by omega)).1 k⟩) (by omega) (Nat.le_of_ble_eq_true rfl) (Nat.le_of_ble_eq_true rfl) ?_
  refine am_putF (q := 36) C ff_X1_21 rfl dX1_init_33 rfl rfl (show kK 169 = (1, 0) by decide +kernel) (by omega) ?_
  refine am_aload_n (q := 37) C dX1_init_36 rfl rfl ?_
  refine am_iconst (q := 38) (v := iZ 0) C dX1_init_37 rfl rfl ?_
  refine am_putI (q := 41) C fw_X1_24 dX1_init_38 rfl rfl (show kK 169 = (1, 0) by decide +kernel) (by omega) ?_
  refine am_aload_n (q := 42) C dX1_init_41 rfl rfl ?_
  refine am_iconst (q := 43) (v := iZ 1) C dX1_init_42 rfl rfl ?_
  refine am_putI (q := 46) C fw_X1_28 dX1_init_43 rfl rfl (show kK 169 = (1, 0) by decide +kernel) (by omega) ?_
  refine am_vret C T dX1_init_46 rfl (Nat.le_of_ble_eq_true rfl) (Nat.le_of_ble_eq_true rfl) ⟨rfl, _, _, _, rfl, ?_⟩
  refine ⟨fun x hx => ⟨by rw [am_up_row _ _ _ _ (by omega), am_up_row _ _ _ _ (by omega), am_up_row _ _ _ _ (by omega), am_up_row _ _ _ _ (by omega)], by rw [am_up_row _ _ _ _ (by omega), am_up_row _ _ _ _ (by omega)], rfl⟩, fun x h1 h2 => ?_, fun x hx => ⟨by rw [am_up_row _ _ _ _ (by omega), am_up_row _ _ _ _ (by omega), am_up_row _ _ _ _ (by omega), am_up_row _ _ _ _ (by omega)]; exact (hf x (by omega)).1, by rw [am_up_row _ _ _ _ (by omega), am_up_row _ _ _ _ (by omega)]; exact (hf x (by omega)).2.1, (hf x (by omega)).2.2⟩⟩
  rcases (show x = 169 ∨ x = 170 ∨ x = 171 ∨ x = 172 ∨ x = 173 by omega) with e9 | e9 | e9 | e9 | e9
  · rw [e9]; clear h1 h2 e9; refine ⟨?_, ?_, ?_⟩
    · rw [am_upR, am_upR, am_upR, am_upR, (hf 169 (by omega)).1, kR_l (show rl.getD 169 [] = [some 170, some 171, some 172, some 173, none, none] by decide +kernel), show zR = _ from rep_get none 6, up1_get _ _ _ _ (Nat.le_of_ble_eq_true rfl), up1_get _ _ _ _ (Nat.le_of_ble_eq_true rfl), up1_get _ _ _ _ (Nat.le_of_ble_eq_true rfl), up1_get _ _ _ _ (Nat.le_of_ble_eq_true rfl)]; first | done | rfl
    · rw [am_upR, am_upR, (hf 169 (by omega)).2.1, up1_zero, i0_l (show i0L 169 = [0, 0, 0, 0, 0, 1] by decide +kernel), show zI = _ from rep_get 0 6, up1_get _ _ _ _ (Nat.le_of_ble_eq_true rfl)]; first | done | exact congrArg (fun (l : List Int32) (k : Nat) => l.getD k 0) (by decide +kernel)
    · exact (hf 169 (by omega)).2.2.trans (j0_z (by omega)).symm
  · rw [e9]; clear h1 h2 e9; refine ⟨?_, ?_, ?_⟩
    · rw [am_up_row _ _ _ _ (by omega), am_up_row _ _ _ _ (by omega), am_up_row _ _ _ _ (by omega), am_up_row _ _ _ _ (by omega)]; exact (hf 170 (by omega)).1.trans (kR_z (by decide +kernel)).symm
    · rw [am_up_row _ _ _ _ (by omega), am_up_row _ _ _ _ (by omega), (hf 170 (by omega)).2.1]; exact (i0_z (by decide +kernel)).symm
    · exact (hf 170 (by omega)).2.2.trans (j0_z (by omega)).symm
  · rw [e9]; clear h1 h2 e9; refine ⟨?_, ?_, ?_⟩
    · rw [am_up_row _ _ _ _ (by omega), am_up_row _ _ _ _ (by omega), am_up_row _ _ _ _ (by omega), am_up_row _ _ _ _ (by omega)]; exact (hf 171 (by omega)).1.trans (kR_z (by decide +kernel)).symm
    · rw [am_up_row _ _ _ _ (by omega), am_up_row _ _ _ _ (by omega), (hf 171 (by omega)).2.1]; exact (i0_z (by decide +kernel)).symm
    · exact (hf 171 (by omega)).2.2.trans (j0_z (by omega)).symm
  · rw [e9]; clear h1 h2 e9; refine ⟨?_, ?_, ?_⟩
    · rw [am_up_row _ _ _ _ (by omega), am_up_row _ _ _ _ (by omega), am_up_row _ _ _ _ (by omega), am_up_row _ _ _ _ (by omega)]; exact (hf 172 (by omega)).1.trans (kR_z (by decide +kernel)).symm
    · rw [am_up_row _ _ _ _ (by omega), am_up_row _ _ _ _ (by omega), (hf 172 (by omega)).2.1]; exact (i0_z (by decide +kernel)).symm
    · exact (hf 172 (by omega)).2.2.trans (j0_z (by omega)).symm
  · rw [e9]; clear h1 h2 e9; refine ⟨?_, ?_, ?_⟩
    · rw [am_up_row _ _ _ _ (by omega), am_up_row _ _ _ _ (by omega), am_up_row _ _ _ _ (by omega), am_up_row _ _ _ _ (by omega)]; exact (hf 173 (by omega)).1.trans (kR_z (by decide +kernel)).symm
    · rw [am_up_row _ _ _ _ (by omega), am_up_row _ _ _ _ (by omega), (hf 173 (by omega)).2.1]; exact (i0_z (by decide +kernel)).symm
    · exact (hf 173 (by omega)).2.2.trans (j0_z (by omega)).symm
set_option maxRecDepth 8000 in
theorem sp_X4_init (hf : fre 174 Rf I J) : am_S G mX4_init 1 1 20736 [.ref 174] (174 + 1, kK, Rf, I, J) (am_qv (fun w' => ∃ (Rf' : Nat → Nat → Option Nat) (I' : Nat → Nat → Int32) (J' : Nat → Nat → Int64), w' = (176, kK, Rf', I', J') ∧ lay 174 (176) Rf I J Rf' I' J')) := by
  refine am_spec (plainFor_of_name (by decide +kernel)) (Nat.le_of_ble_eq_true rfl) (L := [some (.ref 174)]) rfl (fun X C T => ?_)
  refine am_aload_n (q := 1) C dX4_init_0 rfl rfl ?_
  refine am_objInit (q := 4) C ml_X4_3 oi_inst oi_code dX4_init_1 rfl (by decide) (by decide) (Nat.le_of_ble_eq_true rfl) ?_
  refine am_aload_n (q := 5) C dX4_init_4 rfl rfl ?_
  refine am_sipush (q := 8) (v := iZ 20736) C dX4_init_5 rfl rfl ?_
  refine am_newa (q := 10) (t := 1) (Na := 20736) C ia_long rfl rfl (fun _ => rfl) (by decide) dX4_init_8 rfl (show kK 175 = (21, 20736) by decide +kernel) (by decide +kernel) (by decide) (fun k => ⟨by exact congrFun (hf 175 (by omega)).2.1 k, by exact congrFun (hf 175 (by omega)).2.2 k, by exact congrFun (hf 175 (by omega)).1 k⟩) (by omega) (Nat.le_of_ble_eq_true rfl) (Nat.le_of_ble_eq_true rfl) ?_
  refine am_putF (q := 13) C ff_X4_11 rfl dX4_init_10 rfl rfl (show kK 174 = (4, 0) by decide +kernel) (by omega) ?_
  refine am_aload_n (q := 14) C dX4_init_13 rfl rfl ?_
  refine am_iconst (q := 15) (v := iZ (-1)) C dX4_init_14 rfl rfl ?_
  refine am_putI (q := 18) C fw_X4_15 dX4_init_15 rfl rfl (show kK 174 = (4, 0) by decide +kernel) (by omega) ?_
  refine am_aload_n (q := 19) C dX4_init_18 rfl rfl ?_
  refine am_iconst (q := 20) (v := iZ (-1)) C dX4_init_19 rfl rfl ?_
  refine am_putI (q := 23) C fw_X4_19 dX4_init_20 rfl rfl (show kK 174 = (4, 0) by decide +kernel) (by omega) ?_
  refine am_vret C T dX4_init_23 rfl (Nat.le_of_ble_eq_true rfl) (Nat.le_of_ble_eq_true rfl) ⟨rfl, _, _, _, rfl, ?_⟩
  refine ⟨fun x hx => ⟨by rw [am_up_row _ _ _ _ (by omega)], by rw [am_up_row _ _ _ _ (by omega), am_up_row _ _ _ _ (by omega)], rfl⟩, fun x h1 h2 => ?_, fun x hx => ⟨by rw [am_up_row _ _ _ _ (by omega)]; exact (hf x (by omega)).1, by rw [am_up_row _ _ _ _ (by omega), am_up_row _ _ _ _ (by omega)]; exact (hf x (by omega)).2.1, (hf x (by omega)).2.2⟩⟩
  rcases (show x = 174 ∨ x = 175 by omega) with e9 | e9
  · rw [e9]; clear h1 h2 e9; refine ⟨?_, ?_, ?_⟩
    · rw [am_upR, (hf 174 (by omega)).1, kR_l (show rl.getD 174 [] = [some 175, none, none] by decide +kernel), show zR = _ from rep_get none 3, up1_get _ _ _ _ (Nat.le_of_ble_eq_true rfl)]; first | done | rfl
    · rw [am_upR, am_upR, (hf 174 (by omega)).2.1, i0_l (show i0L 174 = [0, -1, -1] by decide +kernel), show zI = _ from rep_get 0 3, up1_get _ _ _ _ (Nat.le_of_ble_eq_true rfl), up1_get _ _ _ _ (Nat.le_of_ble_eq_true rfl)]; first | done | exact congrArg (fun (l : List Int32) (k : Nat) => l.getD k 0) (by decide +kernel)
    · exact (hf 174 (by omega)).2.2.trans (j0_z (by omega)).symm
  · rw [e9]; clear h1 h2 e9; refine ⟨?_, ?_, ?_⟩
    · rw [am_up_row _ _ _ _ (by omega)]; exact (hf 175 (by omega)).1.trans (kR_z (by decide +kernel)).symm
    · rw [am_up_row _ _ _ _ (by omega), am_up_row _ _ _ _ (by omega), (hf 175 (by omega)).2.1]; exact (i0_z (by decide +kernel)).symm
    · exact (hf 175 (by omega)).2.2.trans (j0_z (by omega)).symm
set_option maxRecDepth 8000 in
theorem sp_X9_init (hf : fre 176 Rf I J) : am_S G mX9_init 1 1 26047 [.ref 176] (176 + 1, kK, Rf, I, J) (am_qv (fun w' => ∃ (Rf' : Nat → Nat → Option Nat) (I' : Nat → Nat → Int32) (J' : Nat → Nat → Int64), w' = (178, kK, Rf', I', J') ∧ lay 176 (178) Rf I J Rf' I' J')) := by
  refine am_spec (plainFor_of_name (by decide +kernel)) (Nat.le_of_ble_eq_true rfl) (L := [some (.ref 176)]) rfl (fun X C T => ?_)
  refine am_aload_n (q := 1) C dX9_init_0 rfl rfl ?_
  refine am_objInit (q := 4) C ml_X9_3 oi_inst oi_code dX9_init_1 rfl (by decide) (by decide) (Nat.le_of_ble_eq_true rfl) ?_
  refine am_aload_n (q := 5) C dX9_init_4 rfl rfl ?_
  refine am_sipush (q := 8) (v := iZ 26047) C dX9_init_5 rfl rfl ?_
  refine am_newa (q := 10) (t := 1) (Na := 26047) C ia_long rfl rfl (fun _ => rfl) (by decide) dX9_init_8 rfl (show kK 177 = (21, 26047) by decide +kernel) (by decide +kernel) (by decide) (fun k => ⟨by exact congrFun (hf 177 (by omega)).2.1 k, by exact congrFun (hf 177 (by omega)).2.2 k, by exact congrFun (hf 177 (by omega)).1 k⟩) (by omega) (Nat.le_of_ble_eq_true rfl) (Nat.le_of_ble_eq_true rfl) ?_
  refine am_putF (q := 13) C ff_X9_11 rfl dX9_init_10 rfl rfl (show kK 176 = (9, 0) by decide +kernel) (by omega) ?_
  refine am_aload_n (q := 14) C dX9_init_13 rfl rfl ?_
  refine am_iconst (q := 15) (v := iZ (-1)) C dX9_init_14 rfl rfl ?_
  refine am_putI (q := 18) C fw_X9_15 dX9_init_15 rfl rfl (show kK 176 = (9, 0) by decide +kernel) (by omega) ?_
  refine am_aload_n (q := 19) C dX9_init_18 rfl rfl ?_
  refine am_iconst (q := 20) (v := iZ (-1)) C dX9_init_19 rfl rfl ?_
  refine am_putI (q := 23) C fw_X9_19 dX9_init_20 rfl rfl (show kK 176 = (9, 0) by decide +kernel) (by omega) ?_
  refine am_vret C T dX9_init_23 rfl (Nat.le_of_ble_eq_true rfl) (Nat.le_of_ble_eq_true rfl) ⟨rfl, _, _, _, rfl, ?_⟩
  refine ⟨fun x hx => ⟨by rw [am_up_row _ _ _ _ (by omega)], by rw [am_up_row _ _ _ _ (by omega), am_up_row _ _ _ _ (by omega)], rfl⟩, fun x h1 h2 => ?_, fun x hx => ⟨by rw [am_up_row _ _ _ _ (by omega)]; exact (hf x (by omega)).1, by rw [am_up_row _ _ _ _ (by omega), am_up_row _ _ _ _ (by omega)]; exact (hf x (by omega)).2.1, (hf x (by omega)).2.2⟩⟩
  rcases (show x = 176 ∨ x = 177 by omega) with e9 | e9
  · rw [e9]; clear h1 h2 e9; refine ⟨?_, ?_, ?_⟩
    · rw [am_upR, (hf 176 (by omega)).1, kR_l (show rl.getD 176 [] = [some 177, none, none] by decide +kernel), show zR = _ from rep_get none 3, up1_get _ _ _ _ (Nat.le_of_ble_eq_true rfl)]; first | done | rfl
    · rw [am_upR, am_upR, (hf 176 (by omega)).2.1, i0_l (show i0L 176 = [0, -1, -1] by decide +kernel), show zI = _ from rep_get 0 3, up1_get _ _ _ _ (Nat.le_of_ble_eq_true rfl), up1_get _ _ _ _ (Nat.le_of_ble_eq_true rfl)]; first | done | exact congrArg (fun (l : List Int32) (k : Nat) => l.getD k 0) (by decide +kernel)
    · exact (hf 176 (by omega)).2.2.trans (j0_z (by omega)).symm
  · rw [e9]; clear h1 h2 e9; refine ⟨?_, ?_, ?_⟩
    · rw [am_up_row _ _ _ _ (by omega)]; exact (hf 177 (by omega)).1.trans (kR_z (by decide +kernel)).symm
    · rw [am_up_row _ _ _ _ (by omega), am_up_row _ _ _ _ (by omega), (hf 177 (by omega)).2.1]; exact (i0_z (by decide +kernel)).symm
    · exact (hf 177 (by omega)).2.2.trans (j0_z (by omega)).symm
set_option maxRecDepth 8000 in
theorem sp_X2_init (hf : fre 178 Rf I J) : am_S G mX2_init 1 1 961 [.ref 178] (178 + 1, kK, Rf, I, J) (am_qv (fun w' => ∃ (Rf' : Nat → Nat → Option Nat) (I' : Nat → Nat → Int32) (J' : Nat → Nat → Int64), w' = (180, kK, Rf', I', J') ∧ lay 178 (180) Rf I J Rf' I' J')) := by
  refine am_spec (plainFor_of_name (by decide +kernel)) (Nat.le_of_ble_eq_true rfl) (L := [some (.ref 178)]) rfl (fun X C T => ?_)
  refine am_aload_n (q := 1) C dX2_init_0 rfl rfl ?_
  refine am_objInit (q := 4) C ml_X2_3 oi_inst oi_code dX2_init_1 rfl (by decide) (by decide) (Nat.le_of_ble_eq_true rfl) ?_
  refine am_aload_n (q := 5) C dX2_init_4 rfl rfl ?_
  refine am_sipush (q := 8) (v := iZ 961) C dX2_init_5 rfl rfl ?_
  refine am_newa (q := 10) (t := 1) (Na := 961) C ia_long rfl rfl (fun _ => rfl) (by decide) dX2_init_8 rfl (show kK 179 = (21, 961) by decide +kernel) (by decide +kernel) (by decide) (fun k => ⟨by exact congrFun (hf 179 (by omega)).2.1 k, by exact congrFun (hf 179 (by omega)).2.2 k, by exact congrFun (hf 179 (by omega)).1 k⟩) (by omega) (Nat.le_of_ble_eq_true rfl) (Nat.le_of_ble_eq_true rfl) ?_
  refine am_putF (q := 13) C ff_X2_11 rfl dX2_init_10 rfl rfl (show kK 178 = (2, 0) by decide +kernel) (by omega) ?_
  refine am_vret C T dX2_init_13 rfl (Nat.le_of_ble_eq_true rfl) (Nat.le_of_ble_eq_true rfl) ⟨rfl, _, _, _, rfl, ?_⟩
  refine ⟨fun x hx => ⟨by rw [am_up_row _ _ _ _ (by omega)], rfl, rfl⟩, fun x h1 h2 => ?_, fun x hx => ⟨by rw [am_up_row _ _ _ _ (by omega)]; exact (hf x (by omega)).1, (hf x (by omega)).2.1, (hf x (by omega)).2.2⟩⟩
  rcases (show x = 178 ∨ x = 179 by omega) with e9 | e9
  · rw [e9]; clear h1 h2 e9; refine ⟨?_, ?_, ?_⟩
    · rw [am_upR, (hf 178 (by omega)).1, kR_l (show rl.getD 178 [] = [some 179] by decide +kernel), show zR = _ from rep_get none 1, up1_get _ _ _ _ (Nat.le_of_ble_eq_true rfl)]; first | done | rfl
    · exact (hf 178 (by omega)).2.1.trans (i0_z (by decide +kernel)).symm
    · exact (hf 178 (by omega)).2.2.trans (j0_z (by omega)).symm
  · rw [e9]; clear h1 h2 e9; refine ⟨?_, ?_, ?_⟩
    · rw [am_up_row _ _ _ _ (by omega)]; exact (hf 179 (by omega)).1.trans (kR_z (by decide +kernel)).symm
    · exact (hf 179 (by omega)).2.1.trans (i0_z (by decide +kernel)).symm
    · exact (hf 179 (by omega)).2.2.trans (j0_z (by omega)).symm
set_option maxRecDepth 8000 in
theorem sp_X3_init (hf : fre 180 Rf I J) : am_S G mX3_init 1 1 25 [.ref 180] (180 + 1, kK, Rf, I, J) (am_qv (fun w' => ∃ (Rf' : Nat → Nat → Option Nat) (I' : Nat → Nat → Int32) (J' : Nat → Nat → Int64), w' = (182, kK, Rf', I', J') ∧ lay 180 (182) Rf I J Rf' I' J')) := by
  refine am_spec (plainFor_of_name (by decide +kernel)) (Nat.le_of_ble_eq_true rfl) (L := [some (.ref 180)]) rfl (fun X C T => ?_)
  refine am_aload_n (q := 1) C dX3_init_0 rfl rfl ?_
  refine am_objInit (q := 4) C ml_X3_3 oi_inst oi_code dX3_init_1 rfl (by decide) (by decide) (Nat.le_of_ble_eq_true rfl) ?_
  refine am_aload_n (q := 5) C dX3_init_4 rfl rfl ?_
  refine am_bipush (q := 7) (v := iZ 25) C dX3_init_5 rfl rfl ?_
  refine am_newa (q := 9) (t := 1) (Na := 25) C ia_long rfl rfl (fun _ => rfl) (by decide) dX3_init_7 rfl (show kK 181 = (21, 25) by decide +kernel) (by decide +kernel) (by decide) (fun k => ⟨by exact congrFun (hf 181 (by omega)).2.1 k, by exact congrFun (hf 181 (by omega)).2.2 k, by exact congrFun (hf 181 (by omega)).1 k⟩) (by omega) (Nat.le_of_ble_eq_true rfl) (Nat.le_of_ble_eq_true rfl) ?_
  refine am_putF (q := 12) C ff_X3_11 rfl dX3_init_9 rfl rfl (show kK 180 = (3, 0) by decide +kernel) (by omega) ?_
  refine am_aload_n (q := 13) C dX3_init_12 rfl rfl ?_
  refine am_iconst (q := 14) (v := iZ 0) C dX3_init_13 rfl rfl ?_
  refine am_putI (q := 17) C fw_X3_15 dX3_init_14 rfl rfl (show kK 180 = (3, 0) by decide +kernel) (by omega) ?_
  refine am_aload_n (q := 18) C dX3_init_17 rfl rfl ?_
  refine am_iconst (q := 19) (v := iZ 0) C dX3_init_18 rfl rfl ?_
  refine am_putI (q := 22) C fw_X3_19 dX3_init_19 rfl rfl (show kK 180 = (3, 0) by decide +kernel) (by omega) ?_
  refine am_aload_n (q := 23) C dX3_init_22 rfl rfl ?_
  refine am_iconst (q := 24) (v := iZ 0) C dX3_init_23 rfl rfl ?_
  refine am_putI (q := 27) C fw_X3_22 dX3_init_24 rfl rfl (show kK 180 = (3, 0) by decide +kernel) (by omega) ?_
  refine am_aload_n (q := 28) C dX3_init_27 rfl rfl ?_
  refine am_iconst (q := 29) (v := iZ 0) C dX3_init_28 rfl rfl ?_
  refine am_putI (q := 32) C fw_X3_25 dX3_init_29 rfl rfl (show kK 180 = (3, 0) by decide +kernel) (by omega) ?_
  refine am_aload_n (q := 33) C dX3_init_32 rfl rfl ?_
  refine am_iconst (q := 34) (v := iZ 0) C dX3_init_33 rfl rfl ?_
  refine am_putI (q := 37) C fw_X3_28 dX3_init_34 rfl rfl (show kK 180 = (3, 0) by decide +kernel) (by omega) ?_
  refine am_aload_n (q := 38) C dX3_init_37 rfl rfl ?_
  refine am_iconst (q := 39) (v := iZ 0) C dX3_init_38 rfl rfl ?_
  refine am_putI (q := 42) C fw_X3_31 dX3_init_39 rfl rfl (show kK 180 = (3, 0) by decide +kernel) (by omega) ?_
  refine am_aload_n (q := 43) C dX3_init_42 rfl rfl ?_
  refine am_iconst (q := 44) (v := iZ 0) C dX3_init_43 rfl rfl ?_
  refine am_putI (q := 47) C fw_X3_34 dX3_init_44 rfl rfl (show kK 180 = (3, 0) by decide +kernel) (by omega) ?_
  refine am_aload_n (q := 48) C dX3_init_47 rfl rfl ?_
  refine am_iconst (q := 49) (v := iZ 0) C dX3_init_48 rfl rfl ?_
  refine am_putI (q := 52) C fw_X3_37 dX3_init_49 rfl rfl (show kK 180 = (3, 0) by decide +kernel) (by omega) ?_
  refine am_vret C T dX3_init_52 rfl (Nat.le_of_ble_eq_true rfl) (Nat.le_of_ble_eq_true rfl) ⟨rfl, _, _, _, rfl, ?_⟩
  refine ⟨fun x hx => ⟨by rw [am_up_row _ _ _ _ (by omega)], by rw [am_up_row _ _ _ _ (by omega), am_up_row _ _ _ _ (by omega), am_up_row _ _ _ _ (by omega), am_up_row _ _ _ _ (by omega), am_up_row _ _ _ _ (by omega), am_up_row _ _ _ _ (by omega), am_up_row _ _ _ _ (by omega), am_up_row _ _ _ _ (by omega)], rfl⟩, fun x h1 h2 => ?_, fun x hx => ⟨by rw [am_up_row _ _ _ _ (by omega)]; exact (hf x (by omega)).1, by rw [am_up_row _ _ _ _ (by omega), am_up_row _ _ _ _ (by omega), am_up_row _ _ _ _ (by omega), am_up_row _ _ _ _ (by omega), am_up_row _ _ _ _ (by omega), am_up_row _ _ _ _ (by omega), am_up_row _ _ _ _ (by omega), am_up_row _ _ _ _ (by omega)]; exact (hf x (by omega)).2.1, (hf x (by omega)).2.2⟩⟩
  rcases (show x = 180 ∨ x = 181 by omega) with e9 | e9
  · rw [e9]; clear h1 h2 e9; refine ⟨?_, ?_, ?_⟩
    · rw [am_upR, (hf 180 (by omega)).1, kR_l (show rl.getD 180 [] = [some 181, none, none, none, none, none, none, none, none] by decide +kernel), show zR = _ from rep_get none 9, up1_get _ _ _ _ (Nat.le_of_ble_eq_true rfl)]; first | done | rfl
    · rw [am_upR, am_upR, am_upR, am_upR, am_upR, am_upR, am_upR, am_upR, (hf 180 (by omega)).2.1, up1_zero, up1_zero, up1_zero, up1_zero, up1_zero, up1_zero, up1_zero, up1_zero]; exact (i0_z (by decide +kernel)).symm
    · exact (hf 180 (by omega)).2.2.trans (j0_z (by omega)).symm
  · rw [e9]; clear h1 h2 e9; refine ⟨?_, ?_, ?_⟩
    · rw [am_up_row _ _ _ _ (by omega)]; exact (hf 181 (by omega)).1.trans (kR_z (by decide +kernel)).symm
    · rw [am_up_row _ _ _ _ (by omega), am_up_row _ _ _ _ (by omega), am_up_row _ _ _ _ (by omega), am_up_row _ _ _ _ (by omega), am_up_row _ _ _ _ (by omega), am_up_row _ _ _ _ (by omega), am_up_row _ _ _ _ (by omega), am_up_row _ _ _ _ (by omega), (hf 181 (by omega)).2.1]; exact (i0_z (by decide +kernel)).symm
    · exact (hf 181 (by omega)).2.2.trans (j0_z (by omega)).symm
