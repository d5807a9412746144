def iZ (z : Int) : Int32 := Int32.ofInt z
def rg (z : Int) : Prop := -2147483648 ≤ z ∧ z < 2147483648
theorem iZ_toInt {z : Int} (h : rg z) : (iZ z).toInt = z := by
  unfold iZ
  rw [Int32.toInt_ofInt]
  have e : ((Int32.size : Nat) : Int) = 4294967296 := rfl
  exact Int.bmod_eq_of_le (by have := h.1; omega) (by have := h.2; omega)
theorem iZ_of (x : Int32) : ∃ z, rg z ∧ x = iZ z := ⟨x.toInt, ⟨Int32.le_toInt x, Int32.toInt_lt x⟩, by simp [iZ]⟩
theorem iZ_add (a b : Int) : iZ a + iZ b = iZ (a + b) := (Int32.ofInt_add a b).symm
theorem iZ_sub (a b : Int) : iZ a - iZ b = iZ (a - b) := (Int32.ofInt_sub a b).symm
theorem iZ_mul (a b : Int) : iZ a * iZ b = iZ (a * b) := (Int32.ofInt_mul a b).symm
theorem iZ_neg (a : Int) : -iZ a = iZ (-a) := (Int32.ofInt_neg a).symm
theorem iZ_lt {a b : Int} (ha : rg a) (hb : rg b) : iZ a < iZ b ↔ a < b := by rw [Int32.lt_iff_toInt_lt, iZ_toInt ha, iZ_toInt hb]
theorem iZ_le {a b : Int} (ha : rg a) (hb : rg b) : iZ a ≤ iZ b ↔ a ≤ b := by rw [Int32.le_iff_toInt_le, iZ_toInt ha, iZ_toInt hb]
theorem iZ_eq {a b : Int} (ha : rg a) (hb : rg b) : iZ a = iZ b ↔ a = b := ⟨fun h => by rw [← iZ_toInt ha, ← iZ_toInt hb, h], fun h => by rw [h]⟩
theorem iZ_nI (n : Nat) : nI n = iZ (n : Int) := by unfold nI iZ; exact (Int32.ofInt_eq_ofNat (n := n)).symm
theorem iZ_0 : iZ 0 = 0 := rfl
theorem rg_0 : rg 0 := ⟨by decide, by decide⟩
theorem iZ_in {z : Int} {n : Nat} (h0 : 0 ≤ z) (h1 : z < n) (hn : n < 2147483648) : vp_in (iZ z) n := by
  rw [vp_in_iff, iZ_toInt ⟨by omega, by omega⟩]
  exact ⟨h0, h1⟩
theorem iZ_cl {z : Int} (h : rg z) : (iZ z).toNatClampNeg = z.toNat := by
  show (iZ z).toInt.toNat = _
  rw [iZ_toInt h]
theorem iZ_clN {z : Int} {k : Nat} (e : z = k) (hk : k < 2147483648) : (iZ z).toNatClampNeg = k := by
  rw [iZ_cl ⟨by omega, by omega⟩, e]; rfl
section AM
variable {G : am_G} {M : am_M} {X : am_X} {R : Room} {pc q : Nat} {L : List (Option Value)} {st : List Value} {w : am_W} {c n : Nat}
theorem am_intE {x y : Int32} (e : x = y) (k : am_A G M X R pc L (.int y :: st) w c n) : am_A G M X R pc L (.int x :: st) w c n := e ▸ k
theorem am_longE {x y : Int64} (e : x = y) (k : am_A G M X R pc L (.long y :: st) w c n) : am_A G M X R pc L (.long x :: st) w c n := e ▸ k
theorem am_iaddZ {a b : Int} (C : am_C G M X) (hd : decode M.2.1 pc = .ok (.iadd, 1)) (hq : pc + 1 = q) (k : am_A G M X R q L (.int (iZ (a + b)) :: st) w c n) : am_A G M X R pc L (.int (iZ b) :: .int (iZ a) :: st) w c n :=
  am_iadd C hd hq (am_intE (iZ_add a b) k)
theorem am_isubZ {a b : Int} (C : am_C G M X) (hd : decode M.2.1 pc = .ok (.isub, 1)) (hq : pc + 1 = q) (k : am_A G M X R q L (.int (iZ (a - b)) :: st) w c n) : am_A G M X R pc L (.int (iZ b) :: .int (iZ a) :: st) w c n :=
  am_isub C hd hq (am_intE (iZ_sub a b) k)
theorem am_imulZ {a b : Int} (C : am_C G M X) (hd : decode M.2.1 pc = .ok (.imul, 1)) (hq : pc + 1 = q) (k : am_A G M X R q L (.int (iZ (a * b)) :: st) w c n) : am_A G M X R pc L (.int (iZ b) :: .int (iZ a) :: st) w c n :=
  am_imul C hd hq (am_intE (iZ_mul a b) k)
theorem am_inegZ {a : Int} (C : am_C G M X) (hd : decode M.2.1 pc = .ok (.ineg, 1)) (hq : pc + 1 = q) (k : am_A G M X R q L (.int (iZ (-a)) :: st) w c n) : am_A G M X R pc L (.int (iZ a) :: st) w c n :=
  am_ineg C hd hq (am_intE (iZ_neg a) k)
theorem iZ_div {a b : Int} (ha : rg a) (hb : rg b) (h : ¬ (a = -2147483648 ∧ b = -1)) : iZ a / iZ b = iZ (a.tdiv b) := by
  apply Int32.toInt_inj.mp
  rw [Int32.toInt_div, iZ_toInt ha, iZ_toInt hb]
  show _ = (Int32.ofInt _).toInt
  rw [Int32.toInt_ofInt]
theorem am_idivZ {a b : Int} (C : am_C G M X) (hd : decode M.2.1 pc = .ok (.idiv, 1)) (hq : pc + 1 = q) (ha : rg a) (hb : rg b) (h0 : b ≠ 0) (h : ¬ (a = -2147483648 ∧ b = -1)) (k : am_A G M X R q L (.int (iZ (a.tdiv b)) :: st) w c n) : am_A G M X R pc L (.int (iZ b) :: .int (iZ a) :: st) w c n :=
  am_idiv C hd hq (fun e => h0 ((iZ_eq hb rg_0).mp e)) (am_intE (iZ_div ha hb h) k)
theorem am_iremZ {a b : Int} (C : am_C G M X) (hd : decode M.2.1 pc = .ok (.irem, 1)) (hq : pc + 1 = q) (ha : rg a) (hb : rg b) (h0 : b ≠ 0) (h : ¬ (a = -2147483648 ∧ b = -1)) (k : am_A G M X R q L (.int (iZ (a.tmod b)) :: st) w c n) : am_A G M X R pc L (.int (iZ b) :: .int (iZ a) :: st) w c n := by
  refine am_irem C hd hq (fun e => h0 ((iZ_eq hb rg_0).mp e)) (am_intE ?_ k)
  unfold jrem
  rw [iZ_div ha hb h, iZ_mul, iZ_sub]
  have := Int.mul_tdiv_add_tmod a b
  congr 1
  rw [Int.mul_comm]
  omega
theorem iZ_l {a : Int} (ha : rg a) : (iZ a).toInt64 = Int64.ofInt a := by
  have e : ((Int64.size : Nat) : Int) = 18446744073709551616 := rfl
  apply Int64.toInt_inj.mp
  rw [Int32.toInt_toInt64, iZ_toInt ha, Int64.toInt_ofInt]
  exact (Int.bmod_eq_of_le (by have := ha.1; omega) (by have := ha.2; omega)).symm
theorem am_i2lZ {a : Int} (C : am_C G M X) (hd : decode M.2.1 pc = .ok (.i2l, 1)) (hq : pc + 1 = q) (ha : rg a) (k : am_A G M X R q L (.long (Int64.ofInt a) :: st) w c n) : am_A G M X R pc L (.int (iZ a) :: st) w c n :=
  am_i2l C hd hq (am_longE (iZ_l ha) k)
theorem am_iincZ {i : Nat} {z a b : Int} {L' : List (Option Value)} (C : am_C G M X) (hd : decode M.2.1 pc = .ok (.iinc i z, 3)) (hq : pc + 3 = q) (hl : L[i]? = some (some (.int (iZ a)))) (hb : a + z = b) (hi : i < M.2.2.1) (hn : am_nd L = true) (hs : am_st1 L i (.int (iZ b)) = L') (k : am_A G M X R q L' st w c n) : am_A G M X R pc L st w c n :=
  am_iinc C hd hq hl (by subst hb; exact iZ_add a z) hi hn hs k
theorem am_icmpZ_lt {a b : Int} {off : Int} {tgt : Nat} (C : am_C G M X) (hd : decode M.2.1 pc = .ok (.if_icmp .lt off, 3)) (ht : (pc : Int) + off = (tgt : Int)) (hq : pc + 3 = q) (ha : rg a) (hb : rg b) (kt : a < b → am_A G M X R tgt L st w c n) (kf : b ≤ a → am_A G M X R q L st w c n) : am_A G M X R pc L (.int (iZ b) :: .int (iZ a) :: st) w c n :=
  am_icmp_lt C hd ht hq (fun z => kt ((iZ_lt ha hb).mp z)) (fun z => kf (Int.not_lt.mp (fun e => z ((iZ_lt ha hb).mpr e))))
theorem am_ifZ_lt {a : Int} {off : Int} {tgt : Nat} (C : am_C G M X) (hd : decode M.2.1 pc = .ok (.ifCond .lt off, 3)) (ht : (pc : Int) + off = (tgt : Int)) (hq : pc + 3 = q) (ha : rg a) (kt : a < 0 → am_A G M X R tgt L st w c n) (kf : 0 ≤ a → am_A G M X R q L st w c n) : am_A G M X R pc L (.int (iZ a) :: st) w c n :=
  am_if_lt C hd ht hq (fun z => kt ((iZ_lt ha rg_0).mp z)) (fun z => kf (Int.not_lt.mp (fun e => z ((iZ_lt ha rg_0).mpr e))))
theorem am_icmpZ_ge {a b : Int} {off : Int} {tgt : Nat} (C : am_C G M X) (hd : decode M.2.1 pc = .ok (.if_icmp .ge off, 3)) (ht : (pc : Int) + off = (tgt : Int)) (hq : pc + 3 = q) (ha : rg a) (hb : rg b) (kt : b ≤ a → am_A G M X R tgt L st w c n) (kf : a < b → am_A G M X R q L st w c n) : am_A G M X R pc L (.int (iZ b) :: .int (iZ a) :: st) w c n :=
  am_icmp_ge C hd ht hq (fun z => kt ((iZ_le hb ha).mp z)) (fun z => kf (Int.not_le.mp (fun e => z ((iZ_le hb ha).mpr e))))
theorem am_ifZ_ge {a : Int} {off : Int} {tgt : Nat} (C : am_C G M X) (hd : decode M.2.1 pc = .ok (.ifCond .ge off, 3)) (ht : (pc : Int) + off = (tgt : Int)) (hq : pc + 3 = q) (ha : rg a) (kt : 0 ≤ a → am_A G M X R tgt L st w c n) (kf : a < 0 → am_A G M X R q L st w c n) : am_A G M X R pc L (.int (iZ a) :: st) w c n :=
  am_if_ge C hd ht hq (fun z => kt ((iZ_le rg_0 ha).mp z)) (fun z => kf (Int.not_le.mp (fun e => z ((iZ_le rg_0 ha).mpr e))))
theorem am_icmpZ_gt {a b : Int} {off : Int} {tgt : Nat} (C : am_C G M X) (hd : decode M.2.1 pc = .ok (.if_icmp .gt off, 3)) (ht : (pc : Int) + off = (tgt : Int)) (hq : pc + 3 = q) (ha : rg a) (hb : rg b) (kt : b < a → am_A G M X R tgt L st w c n) (kf : a ≤ b → am_A G M X R q L st w c n) : am_A G M X R pc L (.int (iZ b) :: .int (iZ a) :: st) w c n :=
  am_icmp_gt C hd ht hq (fun z => kt ((iZ_lt hb ha).mp z)) (fun z => kf (Int.not_lt.mp (fun e => z ((iZ_lt hb ha).mpr e))))
theorem am_ifZ_gt {a : Int} {off : Int} {tgt : Nat} (C : am_C G M X) (hd : decode M.2.1 pc = .ok (.ifCond .gt off, 3)) (ht : (pc : Int) + off = (tgt : Int)) (hq : pc + 3 = q) (ha : rg a) (kt : 0 < a → am_A G M X R tgt L st w c n) (kf : a ≤ 0 → am_A G M X R q L st w c n) : am_A G M X R pc L (.int (iZ a) :: st) w c n :=
  am_if_gt C hd ht hq (fun z => kt ((iZ_lt rg_0 ha).mp z)) (fun z => kf (Int.not_lt.mp (fun e => z ((iZ_lt rg_0 ha).mpr e))))
theorem am_icmpZ_le {a b : Int} {off : Int} {tgt : Nat} (C : am_C G M X) (hd : decode M.2.1 pc = .ok (.if_icmp .le off, 3)) (ht : (pc : Int) + off = (tgt : Int)) (hq : pc + 3 = q) (ha : rg a) (hb : rg b) (kt : a ≤ b → am_A G M X R tgt L st w c n) (kf : b < a → am_A G M X R q L st w c n) : am_A G M X R pc L (.int (iZ b) :: .int (iZ a) :: st) w c n :=
  am_icmp_le C hd ht hq (fun z => kt ((iZ_le ha hb).mp z)) (fun z => kf (Int.not_le.mp (fun e => z ((iZ_le ha hb).mpr e))))
theorem am_ifZ_le {a : Int} {off : Int} {tgt : Nat} (C : am_C G M X) (hd : decode M.2.1 pc = .ok (.ifCond .le off, 3)) (ht : (pc : Int) + off = (tgt : Int)) (hq : pc + 3 = q) (ha : rg a) (kt : a ≤ 0 → am_A G M X R tgt L st w c n) (kf : 0 < a → am_A G M X R q L st w c n) : am_A G M X R pc L (.int (iZ a) :: st) w c n :=
  am_if_le C hd ht hq (fun z => kt ((iZ_le ha rg_0).mp z)) (fun z => kf (Int.not_le.mp (fun e => z ((iZ_le ha rg_0).mpr e))))
theorem am_icmpZ_eq {a b : Int} {off : Int} {tgt : Nat} (C : am_C G M X) (hd : decode M.2.1 pc = .ok (.if_icmp .eq off, 3)) (ht : (pc : Int) + off = (tgt : Int)) (hq : pc + 3 = q) (ha : rg a) (hb : rg b) (kt : a = b → am_A G M X R tgt L st w c n) (kf : a ≠ b → am_A G M X R q L st w c n) : am_A G M X R pc L (.int (iZ b) :: .int (iZ a) :: st) w c n :=
  am_icmp_eq C hd ht hq (fun z => kt ((iZ_eq ha hb).mp z)) (fun z => kf (fun e => z ((iZ_eq ha hb).mpr e)))
theorem am_ifZ_eq {a : Int} {off : Int} {tgt : Nat} (C : am_C G M X) (hd : decode M.2.1 pc = .ok (.ifCond .eq off, 3)) (ht : (pc : Int) + off = (tgt : Int)) (hq : pc + 3 = q) (ha : rg a) (kt : a = 0 → am_A G M X R tgt L st w c n) (kf : a ≠ 0 → am_A G M X R q L st w c n) : am_A G M X R pc L (.int (iZ a) :: st) w c n :=
  am_if_eq C hd ht hq (fun z => kt ((iZ_eq ha rg_0).mp z)) (fun z => kf (fun e => z ((iZ_eq ha rg_0).mpr e)))
theorem am_icmpZ_ne {a b : Int} {off : Int} {tgt : Nat} (C : am_C G M X) (hd : decode M.2.1 pc = .ok (.if_icmp .ne off, 3)) (ht : (pc : Int) + off = (tgt : Int)) (hq : pc + 3 = q) (ha : rg a) (hb : rg b) (kt : a ≠ b → am_A G M X R tgt L st w c n) (kf : a = b → am_A G M X R q L st w c n) : am_A G M X R pc L (.int (iZ b) :: .int (iZ a) :: st) w c n :=
  am_icmp_ne C hd ht hq (fun z => kt (fun e => z ((iZ_eq ha hb).mpr e))) (fun z => kf ((iZ_eq ha hb).mp z))
theorem am_ifZ_ne {a : Int} {off : Int} {tgt : Nat} (C : am_C G M X) (hd : decode M.2.1 pc = .ok (.ifCond .ne off, 3)) (ht : (pc : Int) + off = (tgt : Int)) (hq : pc + 3 = q) (ha : rg a) (kt : a ≠ 0 → am_A G M X R tgt L st w c n) (kf : a = 0 → am_A G M X R q L st w c n) : am_A G M X R pc L (.int (iZ a) :: st) w c n :=
  am_if_ne C hd ht hq (fun z => kt (fun e => z ((iZ_eq ha rg_0).mpr e))) (fun z => kf ((iZ_eq ha rg_0).mp z))
variable {N : Nat} {K : Nat → Nat × Nat} {Rf : Nat → Nat → Option Nat} {I : Nat → Nat → Int32} {J : Nat → Nat → Int64} {h k ci len : Nat}
theorem am_ialoadZ {z : Int} (i : Nat) (C : am_C G M X) (hd : decode M.2.1 pc = .ok (.iaload, 1)) (hq : pc + 1 = q) (hk : K h = (20, len)) (hh : h < N) (hz : z = (i : Int)) (hi : i < len) (hlen : len < 2147483648) (kk : am_A G M X R q L (.int (I h i) :: st) (N, K, Rf, I, J) c n) : am_A G M X R pc L (.int (iZ z) :: .ref h :: st) (N, K, Rf, I, J) c n := by
  refine am_iaload C hd hq hk hh (iZ_in (by omega) (by omega) hlen) ?_
  rw [iZ_clN hz (by omega)]
  exact kk
theorem am_baloadZ {z : Int} (i : Nat) (C : am_C G M X) (hd : decode M.2.1 pc = .ok (.baload, 1)) (hq : pc + 1 = q) (hk : K h = (22, len)) (hh : h < N) (hz : z = (i : Int)) (hi : i < len) (hlen : len < 2147483648) (kk : am_A G M X R q L (.int (I h i) :: st) (N, K, Rf, I, J) c n) : am_A G M X R pc L (.int (iZ z) :: .ref h :: st) (N, K, Rf, I, J) c n := by
  refine am_baload C hd hq hk hh (iZ_in (by omega) (by omega) hlen) ?_
  rw [iZ_clN hz (by omega)]
  exact kk
theorem am_zaloadZ {z : Int} (i : Nat) (C : am_C G M X) (hd : decode M.2.1 pc = .ok (.baload, 1)) (hq : pc + 1 = q) (hk : K h = (23, len)) (hh : h < N) (hz : z = (i : Int)) (hi : i < len) (hlen : len < 2147483648) (kk : am_A G M X R q L (.int (I h i) :: st) (N, K, Rf, I, J) c n) : am_A G M X R pc L (.int (iZ z) :: .ref h :: st) (N, K, Rf, I, J) c n := by
  refine am_zaload C hd hq hk hh (iZ_in (by omega) (by omega) hlen) ?_
  rw [iZ_clN hz (by omega)]
  exact kk
theorem am_laloadZ {z : Int} (i : Nat) (C : am_C G M X) (hd : decode M.2.1 pc = .ok (.laload, 1)) (hq : pc + 1 = q) (hk : K h = (21, len)) (hh : h < N) (hz : z = (i : Int)) (hi : i < len) (hlen : len < 2147483648) (kk : am_A G M X R q L (.long (J h i) :: st) (N, K, Rf, I, J) c n) : am_A G M X R pc L (.int (iZ z) :: .ref h :: st) (N, K, Rf, I, J) c n := by
  refine am_laload C hd hq hk hh (iZ_in (by omega) (by omega) hlen) ?_
  rw [iZ_clN hz (by omega)]
  exact kk
theorem am_paloadZ {z : Int} (i : Nat) (C : am_C G M X) (hd : decode M.2.1 pc = .ok (.aaload, 1)) (hq : pc + 1 = q) (hk : K h = (24, len)) (hh : h < N) (hz : z = (i : Int)) (hi : i < len) (hlen : len < 2147483648) (kk : am_A G M X R q L (va_rf (Rf h i) :: st) (N, K, Rf, I, J) c n) : am_A G M X R pc L (.int (iZ z) :: .ref h :: st) (N, K, Rf, I, J) c n := by
  refine am_paload C hd hq hk hh (iZ_in (by omega) (by omega) hlen) ?_
  rw [iZ_clN hz (by omega)]
  exact kk
theorem am_saloadZ {z : Int} (i : Nat) (C : am_C G M X) (hd : decode M.2.1 pc = .ok (.aaload, 1)) (hq : pc + 1 = q) (hk : K h = (25, len)) (hh : h < N) (hz : z = (i : Int)) (hi : i < len) (hlen : len < 2147483648) (kk : am_A G M X R q L (va_rf (Rf h i) :: st) (N, K, Rf, I, J) c n) : am_A G M X R pc L (.int (iZ z) :: .ref h :: st) (N, K, Rf, I, J) c n := by
  refine am_saload C hd hq hk hh (iZ_in (by omega) (by omega) hlen) ?_
  rw [iZ_clN hz (by omega)]
  exact kk
theorem am_iastoreZ {z : Int} {x : Int32} (i : Nat) (C : am_C G M X) (hd : decode M.2.1 pc = .ok (.iastore, 1)) (hq : pc + 1 = q) (hk : K h = (20, len)) (hh : h < N) (hz : z = (i : Int)) (hi : i < len) (hlen : len < 2147483648) (kk : am_A G M X R q L st (N, K, Rf, am_up I h i x, J) c n) : am_A G M X R pc L (.int x :: .int (iZ z) :: .ref h :: st) (N, K, Rf, I, J) c n := by
  refine am_iastore C hd hq hk hh (iZ_in (by omega) (by omega) hlen) ?_
  rw [iZ_clN hz (by omega)]
  exact kk
theorem am_lastoreZ {z : Int} {x : Int64} (i : Nat) (C : am_C G M X) (hd : decode M.2.1 pc = .ok (.lastore, 1)) (hq : pc + 1 = q) (hk : K h = (21, len)) (hh : h < N) (hz : z = (i : Int)) (hi : i < len) (hlen : len < 2147483648) (kk : am_A G M X R q L st (N, K, Rf, I, am_up J h i x) c n) : am_A G M X R pc L (.long x :: .int (iZ z) :: .ref h :: st) (N, K, Rf, I, J) c n := by
  refine am_lastore C hd hq hk hh (iZ_in (by omega) (by omega) hlen) ?_
  rw [iZ_clN hz (by omega)]
  exact kk
theorem am_bastoreZ {z : Int} {x : Int32} (i : Nat) (C : am_C G M X) (hd : decode M.2.1 pc = .ok (.bastore, 1)) (hq : pc + 1 = q) (hk : K h = (22, len)) (hh : h < N) (hz : z = (i : Int)) (hi : i < len) (hlen : len < 2147483648) (kk : am_A G M X R q L st (N, K, Rf, am_up I h i x.toInt8.toInt32, J) c n) : am_A G M X R pc L (.int x :: .int (iZ z) :: .ref h :: st) (N, K, Rf, I, J) c n := by
  refine am_bastore C hd hq hk hh (iZ_in (by omega) (by omega) hlen) ?_
  rw [iZ_clN hz (by omega)]
  exact kk
theorem am_zastoreZ {z : Int} {x : Int32} (i : Nat) (C : am_C G M X) (hd : decode M.2.1 pc = .ok (.bastore, 1)) (hq : pc + 1 = q) (hk : K h = (23, len)) (hh : h < N) (hz : z = (i : Int)) (hi : i < len) (hlen : len < 2147483648) (kk : am_A G M X R q L st (N, K, Rf, am_up I h i (x &&& 1), J) c n) : am_A G M X R pc L (.int x :: .int (iZ z) :: .ref h :: st) (N, K, Rf, I, J) c n := by
  refine am_zastore C hd hq hk hh (iZ_in (by omega) (by omega) hlen) ?_
  rw [iZ_clN hz (by omega)]
  exact kk
theorem am_getIe (C : am_C G M X) {idx : Nat} (F : am_FB M.1.cls idx ci k) (hd : decode M.2.1 pc = .ok (.getfield idx, 3)) (hq : pc + 3 = q) (ht : am_isI (am_ty ci k) = true) (hk : K h = (ci, len)) (hh : h < N) {v : Int32} (e : I h k = v) (kk : am_A G M X R q L (.int v :: st) (N, K, Rf, I, J) c n) : am_A G M X R pc L (.ref h :: st) (N, K, Rf, I, J) c n :=
  am_getI C F hd hq ht hk hh (am_intE e kk)
/-- what a boolean method returns -/
theorem am_zretB {b : Bool} {mc ms : Nat} {Q : Option Value → am_W → Prop} (C : am_C G M X) (T : am_T G X Q mc ms) (hd : decode M.2.1 pc = .ok (.ireturn, 1)) (hr : M.2.2.2 = some .boolean) (hc : c ≤ mc) (hn : n ≤ ms) {z : Int} (hz : z = if b then 1 else 0) (hQ : Q (some (.int (iZ z))) w) : am_A G M X R pc L [.int (iZ z)] w c n :=
  am_zret C T hd hr (by subst hz; cases b <;> rfl) hc hn hQ
end AM
/-! the world once both objects are made: which cell is what -/
def kl : List (Nat × Nat) := [(10, 0), (5, 0), (20, 6), (20, 6), (20, 6), (21, 6), (5, 0), (20, 6), (20, 6), (20, 6), (21, 6), (0, 0), (24, 30), (5, 0), (20, 6), (20, 6), (20, 6), (21, 6), (5, 0), (20, 6), (20, 6), (20, 6), (21, 6), (5, 0), (20, 6), (20, 6), (20, 6), (21, 6), (5, 0), (20, 6), (20, 6), (20, 6), (21, 6), (5, 0), (20, 6), (20, 6), (20, 6), (21, 6), (5, 0), (20, 6), (20, 6), (20, 6), (21, 6), (5, 0), (20, 6), (20, 6), (20, 6), (21, 6), (5, 0), (20, 6), (20, 6), (20, 6), (21, 6), (5, 0), (20, 6), (20, 6), (20, 6), (21, 6), (5, 0), (20, 6), (20, 6), (20, 6), (21, 6), (5, 0), (20, 6), (20, 6), (20, 6), (21, 6), (5, 0), (20, 6), (20, 6), (20, 6), (21, 6), (5, 0), (20, 6), (20, 6), (20, 6), (21, 6), (5, 0), (20, 6), (20, 6), (20, 6), (21, 6), (5, 0), (20, 6), (20, 6), (20, 6), (21, 6), (5, 0), (20, 6), (20, 6), (20, 6), (21, 6), (5, 0), (20, 6), (20, 6), (20, 6), (21, 6), (5, 0), (20, 6), (20, 6), (20, 6), (21, 6), (5, 0), (20, 6), (20, 6), (20, 6), (21, 6), (5, 0), (20, 6), (20, 6), (20, 6), (21, 6), (5, 0), (20, 6), (20, 6), (20, 6), (21, 6), (5, 0), (20, 6), (20, 6), (20, 6), (21, 6), (5, 0), (20, 6), (20, 6), (20, 6), (21, 6), (5, 0), (20, 6), (20, 6), (20, 6), (21, 6), (5, 0), (20, 6), (20, 6), (20, 6), (21, 6), (5, 0), (20, 6), (20, 6), (20, 6), (21, 6), (5, 0), (20, 6), (20, 6), (20, 6), (21, 6), (5, 0), (20, 6), (20, 6), (20, 6), (21, 6), (5, 0), (20, 6), (20, 6), (20, 6), (21, 6), (5, 0), (20, 6), (20, 6), (20, 6), (21, 6), (8, 0), (22, 100), (6, 0), (21, 5), (21, 5), (23, 5), (1, 0), (20, 6), (20, 6), (20, 6), (20, 6), (4, 0), (21, 20736), (9, 0), (21, 26047), (2, 0), (21, 961), (3, 0), (21, 25), (25, 4), (7, 0), (21, 60), (7, 0), (21, 60), (7, 0), (21, 60), (7, 0), (21, 60), (11, 0), (20, 6), (20, 6), (20, 6), (21, 6), (20, 6), (20, 6), (20, 6), (21, 6), (20, 30), (20, 30), (20, 30), (20, 30), (20, 30), (21, 30), (20, 100), (21, 26047), (21, 22500), (20, 6), (20, 6), (20, 6), (20, 4), (20, 4), (21, 240)]
def rl : List (List (Option Nat)) := [[some 1, some 6, some 11, some 163, some 165, some 169, some 174, some 176, some 178, some 180, some 182, none, none, none], [some 2, some 3, some 4, some 5, none], [], [], [], [], [some 7, some 8, some 9, some 10, none], [], [], [], [], [some 12, none, none], [some 13, some 18, some 23, some 28, some 33, some 38, some 43, some 48, some 53, some 58, some 63, some 68, some 73, some 78, some 83, some 88, some 93, some 98, some 103, some 108, some 113, some 118, some 123, some 128, some 133, some 138, some 143, some 148, some 153, some 158], [some 14, some 15, some 16, some 17, none], [], [], [], [], [some 19, some 20, some 21, some 22, none], [], [], [], [], [some 24, some 25, some 26, some 27, none], [], [], [], [], [some 29, some 30, some 31, some 32, none], [], [], [], [], [some 34, some 35, some 36, some 37, none], [], [], [], [], [some 39, some 40, some 41, some 42, none], [], [], [], [], [some 44, some 45, some 46, some 47, none], [], [], [], [], [some 49, some 50, some 51, some 52, none], [], [], [], [], [some 54, some 55, some 56, some 57, none], [], [], [], [], [some 59, some 60, some 61, some 62, none], [], [], [], [], [some 64, some 65, some 66, some 67, none], [], [], [], [], [some 69, some 70, some 71, some 72, none], [], [], [], [], [some 74, some 75, some 76, some 77, none], [], [], [], [], [some 79, some 80, some 81, some 82, none], [], [], [], [], [some 84, some 85, some 86, some 87, none], [], [], [], [], [some 89, some 90, some 91, some 92, none], [], [], [], [], [some 94, some 95, some 96, some 97, none], [], [], [], [], [some 99, some 100, some 101, some 102, none], [], [], [], [], [some 104, some 105, some 106, some 107, none], [], [], [], [], [some 109, some 110, some 111, some 112, none], [], [], [], [], [some 114, some 115, some 116, some 117, none], [], [], [], [], [some 119, some 120, some 121, some 122, none], [], [], [], [], [some 124, some 125, some 126, some 127, none], [], [], [], [], [some 129, some 130, some 131, some 132, none], [], [], [], [], [some 134, some 135, some 136, some 137, none], [], [], [], [], [some 139, some 140, some 141, some 142, none], [], [], [], [], [some 144, some 145, some 146, some 147, none], [], [], [], [], [some 149, some 150, some 151, some 152, none], [], [], [], [], [some 154, some 155, some 156, some 157, none], [], [], [], [], [some 159, some 160, some 161, some 162, none], [], [], [], [], [some 164, none, none, none], [], [some 166, some 167, some 168, none, none, none, none], [], [], [], [some 170, some 171, some 172, some 173, none, none], [], [], [], [], [some 175, none, none], [], [some 177, none, none], [], [some 179], [], [some 181, none, none, none, none, none, none, none, none], [], [some 183, some 185, some 187, some 189], [some 184, none, none], [], [some 186, none, none], [], [some 188, none, none], [], [some 190, none, none], [], [none, none, none, none, some 192, some 193, some 194, some 195, some 196, some 197, some 198, some 199, none, some 200, some 201, some 202, some 203, some 204, some 205, none, some 206, none, none, none, none, some 207, some 208, none, none, some 209, some 210, some 211, none, none, none, none, none, none, none, none, none, none, none, none, none, some 212, some 213, some 214], [], [], [], [], [], [], [], [], [], [], [], [], [], [], [], [], [], [], [], [], [], [], []]
def kK (h : Nat) : Nat × Nat := kl.getD h (99, 0)
def kR (h k : Nat) : Option Nat := (rl.getD h []).getD k none
theorem kk_0 : kK 0 = (10, 0) := by decide +kernel
theorem kr_0_0 : kR 0 0 = some 1 := by decide +kernel
theorem kr_0_1 : kR 0 1 = some 6 := by decide +kernel
theorem kr_0_2 : kR 0 2 = some 11 := by decide +kernel
theorem kr_0_3 : kR 0 3 = some 163 := by decide +kernel
theorem kr_0_4 : kR 0 4 = some 165 := by decide +kernel
theorem kr_0_5 : kR 0 5 = some 169 := by decide +kernel
theorem kr_0_6 : kR 0 6 = some 174 := by decide +kernel
theorem kr_0_7 : kR 0 7 = some 176 := by decide +kernel
theorem kr_0_8 : kR 0 8 = some 178 := by decide +kernel
theorem kr_0_9 : kR 0 9 = some 180 := by decide +kernel
theorem kr_0_10 : kR 0 10 = some 182 := by decide +kernel
theorem kk_1 : kK 1 = (5, 0) := by decide +kernel
theorem kr_1_0 : kR 1 0 = some 2 := by decide +kernel
theorem kr_1_1 : kR 1 1 = some 3 := by decide +kernel
theorem kr_1_2 : kR 1 2 = some 4 := by decide +kernel
theorem kr_1_3 : kR 1 3 = some 5 := by decide +kernel
theorem kk_2 : kK 2 = (20, 6) := by decide +kernel
theorem kk_3 : kK 3 = (20, 6) := by decide +kernel
theorem kk_4 : kK 4 = (20, 6) := by decide +kernel
theorem kk_5 : kK 5 = (21, 6) := by decide +kernel
theorem kk_6 : kK 6 = (5, 0) := by decide +kernel
theorem kr_6_0 : kR 6 0 = some 7 := by decide +kernel
theorem kr_6_1 : kR 6 1 = some 8 := by decide +kernel
theorem kr_6_2 : kR 6 2 = some 9 := by decide +kernel
theorem kr_6_3 : kR 6 3 = some 10 := by decide +kernel
theorem kk_7 : kK 7 = (20, 6) := by decide +kernel
theorem kk_8 : kK 8 = (20, 6) := by decide +kernel
theorem kk_9 : kK 9 = (20, 6) := by decide +kernel
theorem kk_10 : kK 10 = (21, 6) := by decide +kernel
theorem kk_11 : kK 11 = (0, 0) := by decide +kernel
theorem kr_11_0 : kR 11 0 = some 12 := by decide +kernel
theorem kk_12 : kK 12 = (24, 30) := by decide +kernel
theorem kk_163 : kK 163 = (8, 0) := by decide +kernel
theorem kr_163_0 : kR 163 0 = some 164 := by decide +kernel
theorem kk_164 : kK 164 = (22, 100) := by decide +kernel
theorem kk_165 : kK 165 = (6, 0) := by decide +kernel
theorem kr_165_0 : kR 165 0 = some 166 := by decide +kernel
theorem kr_165_1 : kR 165 1 = some 167 := by decide +kernel
theorem kr_165_2 : kR 165 2 = some 168 := by decide +kernel
theorem kk_166 : kK 166 = (21, 5) := by decide +kernel
theorem kk_167 : kK 167 = (21, 5) := by decide +kernel
theorem kk_168 : kK 168 = (23, 5) := by decide +kernel
theorem kk_169 : kK 169 = (1, 0) := by decide +kernel
theorem kr_169_0 : kR 169 0 = some 170 := by decide +kernel
theorem kr_169_1 : kR 169 1 = some 171 := by decide +kernel
theorem kr_169_2 : kR 169 2 = some 172 := by decide +kernel
theorem kr_169_3 : kR 169 3 = some 173 := by decide +kernel
theorem kk_170 : kK 170 = (20, 6) := by decide +kernel
theorem kk_171 : kK 171 = (20, 6) := by decide +kernel
theorem kk_172 : kK 172 = (20, 6) := by decide +kernel
theorem kk_173 : kK 173 = (20, 6) := by decide +kernel
theorem kk_174 : kK 174 = (4, 0) := by decide +kernel
theorem kr_174_0 : kR 174 0 = some 175 := by decide +kernel
theorem kk_175 : kK 175 = (21, 20736) := by decide +kernel
theorem kk_176 : kK 176 = (9, 0) := by decide +kernel
theorem kr_176_0 : kR 176 0 = some 177 := by decide +kernel
theorem kk_177 : kK 177 = (21, 26047) := by decide +kernel
theorem kk_178 : kK 178 = (2, 0) := by decide +kernel
theorem kr_178_0 : kR 178 0 = some 179 := by decide +kernel
theorem kk_179 : kK 179 = (21, 961) := by decide +kernel
theorem kk_180 : kK 180 = (3, 0) := by decide +kernel
theorem kr_180_0 : kR 180 0 = some 181 := by decide +kernel
theorem kk_181 : kK 181 = (21, 25) := by decide +kernel
theorem kk_182 : kK 182 = (25, 4) := by decide +kernel
theorem kr_182_0 : kR 182 0 = some 183 := by decide +kernel
theorem kr_182_1 : kR 182 1 = some 185 := by decide +kernel
theorem kr_182_2 : kR 182 2 = some 187 := by decide +kernel
theorem kr_182_3 : kR 182 3 = some 189 := by decide +kernel
theorem kk_183 : kK 183 = (7, 0) := by decide +kernel
theorem kr_183_0 : kR 183 0 = some 184 := by decide +kernel
theorem kk_184 : kK 184 = (21, 60) := by decide +kernel
theorem kk_185 : kK 185 = (7, 0) := by decide +kernel
theorem kr_185_0 : kR 185 0 = some 186 := by decide +kernel
theorem kk_186 : kK 186 = (21, 60) := by decide +kernel
theorem kk_187 : kK 187 = (7, 0) := by decide +kernel
theorem kr_187_0 : kR 187 0 = some 188 := by decide +kernel
theorem kk_188 : kK 188 = (21, 60) := by decide +kernel
theorem kk_189 : kK 189 = (7, 0) := by decide +kernel
theorem kr_189_0 : kR 189 0 = some 190 := by decide +kernel
theorem kk_190 : kK 190 = (21, 60) := by decide +kernel
theorem kk_191 : kK 191 = (11, 0) := by decide +kernel
theorem kr_191_4 : kR 191 4 = some 192 := by decide +kernel
theorem kr_191_5 : kR 191 5 = some 193 := by decide +kernel
theorem kr_191_6 : kR 191 6 = some 194 := by decide +kernel
theorem kr_191_7 : kR 191 7 = some 195 := by decide +kernel
theorem kr_191_8 : kR 191 8 = some 196 := by decide +kernel
theorem kr_191_9 : kR 191 9 = some 197 := by decide +kernel
theorem kr_191_10 : kR 191 10 = some 198 := by decide +kernel
theorem kr_191_11 : kR 191 11 = some 199 := by decide +kernel
theorem kr_191_13 : kR 191 13 = some 200 := by decide +kernel
theorem kr_191_14 : kR 191 14 = some 201 := by decide +kernel
theorem kr_191_15 : kR 191 15 = some 202 := by decide +kernel
theorem kr_191_16 : kR 191 16 = some 203 := by decide +kernel
theorem kr_191_17 : kR 191 17 = some 204 := by decide +kernel
theorem kr_191_18 : kR 191 18 = some 205 := by decide +kernel
theorem kr_191_20 : kR 191 20 = some 206 := by decide +kernel
theorem kr_191_25 : kR 191 25 = some 207 := by decide +kernel
theorem kr_191_26 : kR 191 26 = some 208 := by decide +kernel
theorem kr_191_29 : kR 191 29 = some 209 := by decide +kernel
theorem kr_191_30 : kR 191 30 = some 210 := by decide +kernel
theorem kr_191_31 : kR 191 31 = some 211 := by decide +kernel
theorem kr_191_45 : kR 191 45 = some 212 := by decide +kernel
theorem kr_191_46 : kR 191 46 = some 213 := by decide +kernel
theorem kr_191_47 : kR 191 47 = some 214 := by decide +kernel
theorem kk_192 : kK 192 = (20, 6) := by decide +kernel
theorem kk_193 : kK 193 = (20, 6) := by decide +kernel
theorem kk_194 : kK 194 = (20, 6) := by decide +kernel
theorem kk_195 : kK 195 = (21, 6) := by decide +kernel
theorem kk_196 : kK 196 = (20, 6) := by decide +kernel
theorem kk_197 : kK 197 = (20, 6) := by decide +kernel
theorem kk_198 : kK 198 = (20, 6) := by decide +kernel
theorem kk_199 : kK 199 = (21, 6) := by decide +kernel
theorem kk_200 : kK 200 = (20, 30) := by decide +kernel
theorem kk_201 : kK 201 = (20, 30) := by decide +kernel
theorem kk_202 : kK 202 = (20, 30) := by decide +kernel
theorem kk_203 : kK 203 = (20, 30) := by decide +kernel
theorem kk_204 : kK 204 = (20, 30) := by decide +kernel
theorem kk_205 : kK 205 = (21, 30) := by decide +kernel
theorem kk_206 : kK 206 = (20, 100) := by decide +kernel
theorem kk_207 : kK 207 = (21, 26047) := by decide +kernel
theorem kk_208 : kK 208 = (21, 22500) := by decide +kernel
theorem kk_209 : kK 209 = (20, 6) := by decide +kernel
theorem kk_210 : kK 210 = (20, 6) := by decide +kernel
theorem kk_211 : kK 211 = (20, 6) := by decide +kernel
theorem kk_212 : kK 212 = (20, 4) := by decide +kernel
theorem kk_213 : kK 213 = (20, 4) := by decide +kernel
theorem kk_214 : kK 214 = (21, 240) := by decide +kernel
/-- a Parts object, with its four arrays behind it -/
def isP (h : Nat) : Prop := h + 4 < 215 ∧ kK h = (5, 0) ∧ kK (h + 1) = (20, 6) ∧ kK (h + 2) = (20, 6) ∧ kK (h + 3) = (20, 6) ∧ kK (h + 4) = (21, 6) ∧ kR h 0 = some (h + 1) ∧ kR h 1 = some (h + 2) ∧ kR h 2 = some (h + 3) ∧ kR h 3 = some (h + 4)
theorem isP_1 : isP 1 := by unfold isP; decide +kernel
theorem isP_6 : isP 6 := by unfold isP; decide +kernel
theorem isP_c : ∀ i, i < 30 → isP (13 + 5 * i) ∧ kR 12 i = some (13 + 5 * i) := by unfold isP; decide +kernel
theorem isS_c : ∀ i, i < 4 → kK (183 + 2 * i) = (7, 0) ∧ kK (184 + 2 * i) = (21, 60) ∧ kR (183 + 2 * i) 0 = some (184 + 2 * i) ∧ kR 182 i = some (183 + 2 * i) := by decide +kernel
