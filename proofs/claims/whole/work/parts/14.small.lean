/-- answers that are told outright -/
def am_fi (v : Int32) (w : am_W) : Option Value → am_W → Prop := am_qi (fun r w' => r = v ∧ w' = w)
def am_fl (v : Int64) (w : am_W) : Option Value → am_W → Prop := am_ql (fun r w' => r = v ∧ w' = w)
def am_fv (w : am_W) : Option Value → am_W → Prop := am_qv (fun w' => w' = w)
section AM
variable {G : am_G} {M : am_M} {X : am_X} {R : Room} {pc : Nat} {L : List (Option Value)} {rest : List Value} {w : am_W} {c n : Nat}
theorem am_rie {v : Int32} (k : am_A G M X R pc L (.int v :: rest) w c n) : ∀ (r : Option Value) (w' : am_W), am_fi v w r w' → am_A G M X R pc L (r.toList ++ rest) w' c n := am_ri (fun v' w' h => by obtain ⟨rfl, rfl⟩ := h; exact k)
theorem am_rle {v : Int64} (k : am_A G M X R pc L (.long v :: rest) w c n) : ∀ (r : Option Value) (w' : am_W), am_fl v w r w' → am_A G M X R pc L (r.toList ++ rest) w' c n := am_rl (fun v' w' h => by obtain ⟨rfl, rfl⟩ := h; exact k)
theorem am_rve (k : am_A G M X R pc L rest w c n) : ∀ (r : Option Value) (w' : am_W), am_fv w r w' → am_A G M X R pc L (r.toList ++ rest) w' c n := am_rv (fun w' h => by obtain rfl := h; exact k)
end AM
variable {G : am_G} {I : Nat → Nat → Int32} {J : Nat → Nat → Int64}
set_option maxRecDepth 4000 in
theorem sp_X1_turn (a b c d : Int) : am_S G mX1_turn 1 0 0 [.int (iZ a), .int (iZ b), .int (iZ c), .int (iZ d)] (215, kK, kR, I, J) (am_fi (iZ (a * d - b * c)) (215, kK, kR, I, J)) := by
  refine am_spec (by decide +kernel) (Nat.le_of_ble_eq_true rfl) (L := [some (.int (iZ a)), some (.int (iZ b)), some (.int (iZ c)), some (.int (iZ d))]) rfl (fun X C T => ?_)
  refine am_iload_n C dX1_turn_0 rfl rfl ?_
  refine am_iload_n C dX1_turn_1 rfl rfl ?_
  refine am_imulZ C dX1_turn_2 rfl ?_
  refine am_iload_n C dX1_turn_3 rfl rfl ?_
  refine am_iload_n C dX1_turn_4 rfl rfl ?_
  refine am_imulZ C dX1_turn_5 rfl ?_
  refine am_isubZ C dX1_turn_6 rfl ?_
  refine am_iret C T dX1_turn_7 rfl (Nat.le_refl _) (Nat.le_refl _) ⟨_, rfl, ?_⟩
  exact ⟨rfl, rfl⟩
set_option maxRecDepth 4000 in
theorem sp_X5_has {h : Nat} (hP : isP h) {m : Int} (hc : I h 4 = iZ m) (hm : 0 ≤ m ∧ m ≤ 6) {p : Int} (hp : rg p) : am_S G mX5_has 1 0 0 [.ref h, .int (iZ p)] (215, kK, kR, I, J) (am_fi (if 0 ≤ p ∧ p < m then 1 else 0) (215, kK, kR, I, J)) := by
  refine am_spec (by decide +kernel) (Nat.le_of_ble_eq_true rfl) (L := [some (.ref h), some (.int (iZ p))]) rfl (fun X C T => ?_)
  refine am_iload_n C dX5_has_0 rfl rfl ?_
  refine am_ifZ_lt (tgt := 22) C dX5_has_1 (by decide) rfl hp (fun h1 => ?_) (fun h1 => ?_)
  · refine am_iconst (v := iZ 0) C dX5_has_22 rfl rfl ?_
    refine am_zretB (b := false) C T dX5_has_23 rfl (Nat.le_refl _) (Nat.le_refl _) rfl ⟨_, rfl, ?_⟩
    refine ⟨?_, rfl⟩
    first | (rw [if_pos (by omega)]; rfl) | (rw [if_neg (by omega)]; rfl)
  · refine am_iload_n C dX5_has_4 rfl rfl ?_
    refine am_aload_n C dX5_has_5 rfl rfl ?_
    refine am_getIe (v := (iZ m)) C fb_X5_25 dX5_has_6 rfl rfl hP.2.1 (by have := hP.1; omega) hc ?_
    refine am_icmpZ_ge (tgt := 22) C dX5_has_9 (by decide) rfl hp ⟨by omega, by omega⟩ (fun h2 => ?_) (fun h2 => ?_)
    · refine am_iconst (v := iZ 0) C dX5_has_22 rfl rfl ?_
      refine am_zretB (b := false) C T dX5_has_23 rfl (Nat.le_refl _) (Nat.le_refl _) rfl ⟨_, rfl, ?_⟩
      refine ⟨?_, rfl⟩
      first | (rw [if_pos (by omega)]; rfl) | (rw [if_neg (by omega)]; rfl)
    · refine am_iload_n C dX5_has_12 rfl rfl ?_
      refine am_bipush (v := iZ 6) C dX5_has_13 rfl rfl ?_
      refine am_icmpZ_ge (tgt := 22) C dX5_has_15 (by decide) rfl hp ⟨by omega, by omega⟩ (fun h3 => ?_) (fun h3 => ?_)
      · refine am_iconst (v := iZ 0) C dX5_has_22 rfl rfl ?_
        refine am_zretB (b := false) C T dX5_has_23 rfl (Nat.le_refl _) (Nat.le_refl _) rfl ⟨_, rfl, ?_⟩
        refine ⟨?_, rfl⟩
        first | (rw [if_pos (by omega)]; rfl) | (rw [if_neg (by omega)]; rfl)
      · refine am_iconst (v := iZ 1) C dX5_has_18 rfl rfl ?_
        refine am_goto (q := 23) C dX5_has_19 (by decide) ?_
        refine am_zretB (b := true) C T dX5_has_23 rfl (Nat.le_refl _) (Nat.le_refl _) rfl ⟨_, rfl, ?_⟩
        refine ⟨?_, rfl⟩
        first | (rw [if_pos (by omega)]; rfl) | (rw [if_neg (by omega)]; rfl)
