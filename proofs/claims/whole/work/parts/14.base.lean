theorem wb_tb (n : Nat) : (lN n).toBitVec = BitVec.ofNat 64 n := rfl
theorem wb_inj {a b : Int64} (h : a.toBitVec = b.toBitVec) : a = b := Int64.toBitVec_inj.mp h
theorem wb_tn {n : Nat} (h : n < 2 ^ 64) : (lN n).toBitVec.toNat = n := by rw [wb_tb, BitVec.toNat_ofNat, Nat.mod_eq_of_lt h]
theorem wb_of (x : Int64) : ∃ n, n < 2 ^ 64 ∧ x = lN n := ⟨x.toBitVec.toNat, x.toBitVec.isLt, wb_inj (by rw [wb_tb]; simp)⟩
theorem wb_of32 (x : Int32) : ∃ n, n < 2 ^ 32 ∧ x = nI n := ⟨x.toBitVec.toNat, x.toBitVec.isLt, Int32.toBitVec_inj.mp (by show _ = BitVec.ofNat 32 _; simp)⟩
theorem wb_c : ∀ k, k < 64 → ((nI k).toInt64 &&& 63) = lN k := by decide +kernel
theorem wb_cu : ∀ k, k < 64 → ((nI k).toInt64.toUInt64 &&& Int64.toUInt64 63) = UInt64.ofNat k := by decide +kernel
theorem wb_sm : ∀ k, k < 64 → (BitVec.ofNat 64 k).smod 64 = BitVec.ofNat 64 k := by decide +kernel
theorem wb_pw {a b : Nat} (h : a ≤ b) : 2 ^ b = 2 ^ a * 2 ^ (b - a) := by rw [← Nat.pow_add]; congr 1; omega
theorem wb_lt2 {a b : Nat} (h : a < b) : 2 ^ a < 2 ^ b := Nat.pow_lt_pow_right (by decide) h
theorem wb_mod (n : Nat) : lN n = lN (n % 2 ^ 64) := wb_inj (by rw [wb_tb, wb_tb]; apply BitVec.eq_of_toNat_eq; rw [BitVec.toNat_ofNat, BitVec.toNat_ofNat, Nat.mod_mod])
theorem wb_shr {n k : Nat} (hn : n < 2 ^ 64) (hk : k < 64) : ((lN n).toUInt64 >>> ((nI k).toInt64.toUInt64 &&& Int64.toUInt64 63)).toInt64 = lN (n / 2 ^ k) := by
  rw [wb_cu k hk]
  apply wb_inj
  apply BitVec.eq_of_toNat_eq
  show ((lN n).toUInt64 >>> UInt64.ofNat k).toNat = (BitVec.ofNat 64 _).toNat
  have h1 : (UInt64.ofNat k).toNat = k := by
    show (BitVec.ofNat 64 k).toNat = k
    rw [BitVec.toNat_ofNat, Nat.mod_eq_of_lt (by omega)]
  have h2 : (lN n).toUInt64.toNat = n := wb_tn hn
  rw [UInt64.toNat_shiftRight, h1, h2, Nat.mod_eq_of_lt hk, Nat.shiftRight_eq_div_pow, BitVec.toNat_ofNat, Nat.mod_eq_of_lt (Nat.lt_of_le_of_lt (Nat.div_le_self _ _) hn)]
theorem wb_shl (n : Nat) {k : Nat} (hk : k < 64) : lN n <<< ((nI k).toInt64 &&& 63) = lN (n * 2 ^ k) := by
  rw [wb_c k hk]
  apply wb_inj
  rw [Int64.toBitVec_shiftLeft, wb_tb, wb_tb, wb_tb, wb_sm k hk]
  apply BitVec.eq_of_toNat_eq
  rw [BitVec.shiftLeft_eq', BitVec.toNat_shiftLeft, BitVec.toNat_ofNat, BitVec.toNat_ofNat, BitVec.toNat_ofNat, Nat.mod_eq_of_lt (show k < 2 ^ 64 by omega), Nat.shiftLeft_eq, Nat.mul_mod, Nat.mod_mod, ← Nat.mul_mod]
theorem wb_and {a b : Nat} (ha : a < 2 ^ 64) (hb : b < 2 ^ 64) : lN a &&& lN b = lN (a &&& b) := by
  apply wb_inj
  rw [Int64.toBitVec_and, wb_tb, wb_tb, wb_tb]
  apply BitVec.eq_of_toNat_eq
  rw [BitVec.toNat_and, BitVec.toNat_ofNat, BitVec.toNat_ofNat, BitVec.toNat_ofNat, Nat.mod_eq_of_lt ha, Nat.mod_eq_of_lt hb, Nat.mod_eq_of_lt (Nat.and_lt_two_pow _ hb)]
theorem wb_or {a b : Nat} (ha : a < 2 ^ 64) (hb : b < 2 ^ 64) : lN a ||| lN b = lN (a ||| b) := by
  apply wb_inj
  rw [Int64.toBitVec_or, wb_tb, wb_tb, wb_tb]
  apply BitVec.eq_of_toNat_eq
  rw [BitVec.toNat_or, BitVec.toNat_ofNat, BitVec.toNat_ofNat, BitVec.toNat_ofNat, Nat.mod_eq_of_lt ha, Nat.mod_eq_of_lt hb, Nat.mod_eq_of_lt (Nat.or_lt_two_pow ha hb)]
theorem wb_mask {n k : Nat} (hn : n < 2 ^ 64) (hk : k < 64) : lN n &&& lN (2 ^ k - 1) = lN (n % 2 ^ k) := by
  rw [wb_and hn (by have := wb_lt2 hk; omega), Nat.and_two_pow_sub_one_eq_mod]
theorem wb_a1 {n : Nat} (hn : n < 2 ^ 64) : lN n &&& 1 = lN (n % 2) := wb_mask (k := 1) hn (by decide)
theorem wb_bit {n k : Nat} (hn : n < 2 ^ 64) (hk : k < 64) : ((lN n).toUInt64 >>> ((nI k).toInt64.toUInt64 &&& Int64.toUInt64 63)).toInt64 &&& 1 = lN (n / 2 ^ k % 2) := by
  rw [wb_shr hn hk, wb_a1 (Nat.lt_of_le_of_lt (Nat.div_le_self _ _) hn)]
/-- answers that are told outright -/
def am_fi (v : Int32) (w : am_W) : Option Value → am_W → Prop := am_qi (fun r w' => r = v ∧ w' = w)
def am_fl (v : Int64) (w : am_W) : Option Value → am_W → Prop := am_ql (fun r w' => r = v ∧ w' = w)
def am_fv (w : am_W) : Option Value → am_W → Prop := am_qv (fun w' => w' = w)
def am_fr (v : Option Nat) (w : am_W) : Option Value → am_W → Prop := am_qr (fun r w' => r = v ∧ w' = w)
section AM
variable {G : am_G} {M : am_M} {X : am_X} {R : Room} {pc : Nat} {L : List (Option Value)} {rest : List Value} {w : am_W} {c n : Nat}
theorem am_rie {v : Int32} (k : am_A G M X R pc L (.int v :: rest) w c n) : ∀ (r : Option Value) (w' : am_W), am_fi v w r w' → am_A G M X R pc L (r.toList ++ rest) w' c n := am_ri (fun v' w' h => by obtain ⟨rfl, rfl⟩ := h; exact k)
theorem am_rle {v : Int64} (k : am_A G M X R pc L (.long v :: rest) w c n) : ∀ (r : Option Value) (w' : am_W), am_fl v w r w' → am_A G M X R pc L (r.toList ++ rest) w' c n := am_rl (fun v' w' h => by obtain ⟨rfl, rfl⟩ := h; exact k)
theorem am_rve (k : am_A G M X R pc L rest w c n) : ∀ (r : Option Value) (w' : am_W), am_fv w r w' → am_A G M X R pc L (r.toList ++ rest) w' c n := am_rv (fun w' h => by obtain rfl := h; exact k)
theorem am_rre {v : Option Nat} (k : am_A G M X R pc L (va_rf v :: rest) w c n) : ∀ (r : Option Value) (w' : am_W), am_fr v w r w' → am_A G M X R pc L (r.toList ++ rest) w' c n := am_rr (fun v' w' h => by obtain ⟨rfl, rfl⟩ := h; exact k)
/-- a spec that says more serves where less is asked -/
theorem am_S.imp {d mc ms : Nat} {av : List Value} {Q Q' : Option Value → am_W → Prop} (h : am_S G M d mc ms av w Q) (hQ : ∀ r w', Q r w' → Q' r w') : am_S G M d mc ms av w Q' := by
  intro l p e ha hc hk s m args below hf happ hP hK
  obtain ⟨k, o, h1, h2, h3, hq⟩ := h l p e ha hc hk s m args below hf happ hP hK
  refine ⟨k, o, h1, h2, h3, ?_⟩
  obtain ⟨⟨⟨r, w1, g1, g2, g3⟩, g4⟩, g5⟩ := hq
  exact ⟨⟨⟨r, w1, g1, hQ _ _ g2, g3⟩, g4⟩, g5⟩
end AM
theorem ite_1 {c : Prop} [Decidable c] : (if c then (1 : Int32) else 0) = 0 ↔ ¬ c := by
  by_cases h : c
  · rw [if_pos h]; exact ⟨fun e => absurd e (by decide), fun e => absurd h e⟩
  · rw [if_neg h]; exact ⟨fun _ => h, fun _ => rfl⟩
theorem ite_nar (c : Prop) [Decidable c] : narrow .boolean (.int (if c then (1 : Int32) else 0)) = .int (if c then 1 else 0) := by by_cases h : c <;> simp [h] <;> rfl
section AM
variable {G : am_G} {M : am_M} {X : am_X} {R : Room} {pc q : Nat} {L : List (Option Value)} {st : List Value} {w : am_W} {c n : Nat}
theorem am_ifB_eq {P : Prop} [Decidable P] {off : Int} {tgt : Nat} (C : am_C G M X) (hd : decode M.2.1 pc = .ok (.ifCond .eq off, 3)) (ht : (pc : Int) + off = (tgt : Int)) (hq : pc + 3 = q) (kt : ¬ P → am_A G M X R tgt L st w c n) (kf : P → am_A G M X R q L st w c n) : am_A G M X R pc L (.int (if P then 1 else 0) :: st) w c n :=
  am_if_eq C hd ht hq (fun z => kt (ite_1.mp z)) (fun z => kf (Decidable.not_not.mp (fun e => z (ite_1.mpr e))))
theorem am_ifB_ne {P : Prop} [Decidable P] {off : Int} {tgt : Nat} (C : am_C G M X) (hd : decode M.2.1 pc = .ok (.ifCond .ne off, 3)) (ht : (pc : Int) + off = (tgt : Int)) (hq : pc + 3 = q) (kt : P → am_A G M X R tgt L st w c n) (kf : ¬ P → am_A G M X R q L st w c n) : am_A G M X R pc L (.int (if P then 1 else 0) :: st) w c n :=
  am_if_ne C hd ht hq (fun z => kt (Decidable.not_not.mp (fun e => z (ite_1.mpr e)))) (fun z => kf (ite_1.mp z))
end AM
theorem jushrL_lN {s : Nat} {k : Int} (hs : s < 2 ^ 64) (hk : 0 ≤ k ∧ k < 64) : jushrL (lN s) (iZ k) = lN (s / 2 ^ k.toNat) := by
  obtain ⟨j, rfl⟩ : ∃ j : Nat, k = j := ⟨k.toNat, by omega⟩
  rw [← iZ_nI]
  exact wb_shr hs (by omega)
theorem jshlL_lN (s : Nat) {k : Int} (hk : 0 ≤ k ∧ k < 64) : jshlL (lN s) (iZ k) = lN (s * 2 ^ k.toNat) := by
  obtain ⟨j, rfl⟩ : ∃ j : Nat, k = j := ⟨k.toNat, by omega⟩
  rw [← iZ_nI]
  exact wb_shl s (by omega)
theorem lN_lt64 {a b : Nat} (ha : a < 2 ^ 63) (hb : b < 2 ^ 63) : lN a < lN b ↔ a < b := pk_lLT ha hb
/-! parts: how many, across, up, weight, rule (a bit for each of 0 to 60) -/
abbrev PT : Type := Nat × (Nat → Nat) × (Nat → Nat) × (Nat → Nat) × (Nat → Nat)
abbrev pm (t : PT) : Nat := t.1
abbrev pa (t : PT) : Nat → Nat := t.2.1
abbrev pb (t : PT) : Nat → Nat := t.2.2.1
abbrev pw (t : PT) : Nat → Nat := t.2.2.2.1
abbrev ps (t : PT) : Nat → Nat := t.2.2.2.2
def okP (t : PT) : Prop := pm t ≤ 6 ∧ ∀ p, p < pm t → pa t p ≤ 4 ∧ pb t p ≤ 4 ∧ 1 ≤ pa t p + pb t p ∧ 1 ≤ pw t p ∧ pw t p ≤ 99 ∧ ps t p < 2 ^ 61
/-- the parts as they lie in a Parts object -/
def atP (h : Nat) (I : Nat → Nat → Int32) (J : Nat → Nat → Int64) (t : PT) : Prop := I h 4 = iZ (pm t) ∧ ∀ p, p < pm t → I (h + 1) p = iZ (pa t p) ∧ I (h + 2) p = iZ (pb t p) ∧ I (h + 3) p = iZ (pw t p) ∧ J (h + 4) p = lN (ps t p)
theorem am_up_row {α : Type} (f : Nat → Nat → α) (h k : Nat) (v : α) {a : Nat} (ha : a ≠ h) : am_up f h k v a = f a := by funext j; simp [am_up, ha]
theorem am_up_eq {α : Type} (f : Nat → Nat → α) (h k : Nat) (v : α) : am_up f h k v h k = v := by simp [am_up]
theorem am_up_ne {α : Type} (f : Nat → Nat → α) (h k : Nat) (v : α) {a j : Nat} (hj : a ≠ h ∨ j ≠ k) : am_up f h k v a j = f a j := by
  unfold am_up
  by_cases e : a = h
  · rw [if_pos e, if_neg (by rcases hj with q | q; exact absurd e q; exact q)]
  · rw [if_neg e]
theorem atP.on {h : Nat} {I I' : Nat → Nat → Int32} {J J' : Nat → Nat → Int64} {t : PT} (hA : atP h I J t) (hI : ∀ a, h ≤ a → a ≤ h + 4 → I' a = I a) (hJ : J' (h + 4) = J (h + 4)) : atP h I' J' t := by
  unfold atP
  rw [hI h (by omega) (by omega), hI (h + 1) (by omega) (by omega), hI (h + 2) (by omega) (by omega), hI (h + 3) (by omega) (by omega), hJ]
  exact hA
