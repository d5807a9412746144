/-- what Java's shifts, remainder and comparison of longs are -/
def jushrL (x : Int64) (y : Int32) : Int64 := (x.toUInt64 >>> (y.toInt64.toUInt64 &&& Int64.toUInt64 63)).toInt64
def jshlL (x : Int64) (y : Int32) : Int64 := x <<< (y.toInt64 &&& 63)
def jshrL (x : Int64) (y : Int32) : Int64 := x >>> (y.toInt64 &&& 63)
def jushr (x y : Int32) : Int32 := (x.toUInt32 >>> (y.toUInt32 &&& Int32.toUInt32 31)).toInt32
def jshl (x y : Int32) : Int32 := x <<< (y &&& 31)
def jshr (x y : Int32) : Int32 := x >>> (y &&& 31)
def jrem (x y : Int32) : Int32 := x - x / y * y
section AM
variable {G : am_G} {M : am_M} {X : am_X} {R : Room} {pc q : Nat} {L : List (Option Value)} {st : List Value} {w : am_W} {c n : Nat}
theorem am_idiv {x y : Int32} (C : am_C G M X) (hd : decode M.2.1 pc = .ok (.idiv, 1)) (hq : pc + 1 = q) (h0 : ¬ y = 0) (k : am_A G M X R q L (.int (x / y) :: st) w c n) : am_A G M X R pc L (.int y :: .int x :: st) w c n := by
  subst hq
  exact fun H locs ls hH hL hS => lv_idiv C.1 C.2.1 hd h0 (k H locs ls hH hL hS)
theorem am_irem {x y : Int32} (C : am_C G M X) (hd : decode M.2.1 pc = .ok (.irem, 1)) (hq : pc + 1 = q) (h0 : ¬ y = 0) (k : am_A G M X R q L (.int (jrem x y) :: st) w c n) : am_A G M X R pc L (.int y :: .int x :: st) w c n := by
  subst hq
  exact fun H locs ls hH hL hS => lv_irem C.1 C.2.1 hd h0 (k H locs ls hH hL hS)
theorem am_ldiv {x y : Int64} (C : am_C G M X) (hd : decode M.2.1 pc = .ok (.ldiv, 1)) (hq : pc + 1 = q) (h0 : ¬ y = 0) (k : am_A G M X R q L (.long (x / y) :: st) w c n) : am_A G M X R pc L (.long y :: .long x :: st) w c n := by
  subst hq
  exact fun H locs ls hH hL hS => lv_ldiv C.1 C.2.1 hd h0 (k H locs ls hH hL hS)
theorem am_ineg {x : Int32} (C : am_C G M X) (hd : decode M.2.1 pc = .ok (.ineg, 1)) (hq : pc + 1 = q) (k : am_A G M X R q L (.int (-x) :: st) w c n) : am_A G M X R pc L (.int x :: st) w c n := by
  subst hq
  exact fun H locs ls hH hL hS => lv_ineg C.1 C.2.1 hd (k H locs ls hH hL hS)
theorem am_lneg {x : Int64} (C : am_C G M X) (hd : decode M.2.1 pc = .ok (.lneg, 1)) (hq : pc + 1 = q) (k : am_A G M X R q L (.long (-x) :: st) w c n) : am_A G M X R pc L (.long x :: st) w c n := by
  subst hq
  exact fun H locs ls hH hL hS => lv_lneg C.1 C.2.1 hd (k H locs ls hH hL hS)
theorem am_ishl {x y : Int32} (C : am_C G M X) (hd : decode M.2.1 pc = .ok (.ishl, 1)) (hq : pc + 1 = q) (k : am_A G M X R q L (.int (jshl x y) :: st) w c n) : am_A G M X R pc L (.int y :: .int x :: st) w c n := by
  subst hq
  exact fun H locs ls hH hL hS => lv_ishl C.1 C.2.1 hd (k H locs ls hH hL hS)
theorem am_ishr {x y : Int32} (C : am_C G M X) (hd : decode M.2.1 pc = .ok (.ishr, 1)) (hq : pc + 1 = q) (k : am_A G M X R q L (.int (jshr x y) :: st) w c n) : am_A G M X R pc L (.int y :: .int x :: st) w c n := by
  subst hq
  exact fun H locs ls hH hL hS => lv_ishr C.1 C.2.1 hd (k H locs ls hH hL hS)
theorem am_iushr {x y : Int32} (C : am_C G M X) (hd : decode M.2.1 pc = .ok (.iushr, 1)) (hq : pc + 1 = q) (k : am_A G M X R q L (.int (jushr x y) :: st) w c n) : am_A G M X R pc L (.int y :: .int x :: st) w c n := by
  subst hq
  exact fun H locs ls hH hL hS => lv_iushr C.1 C.2.1 hd rfl (k H locs ls hH hL hS)
theorem am_lshl {x : Int64} {y : Int32} (C : am_C G M X) (hd : decode M.2.1 pc = .ok (.lshl, 1)) (hq : pc + 1 = q) (k : am_A G M X R q L (.long (jshlL x y) :: st) w c n) : am_A G M X R pc L (.int y :: .long x :: st) w c n := by
  subst hq
  exact fun H locs ls hH hL hS => lv_lshl C.1 C.2.1 hd rfl (k H locs ls hH hL hS)
theorem am_lshr {x : Int64} {y : Int32} (C : am_C G M X) (hd : decode M.2.1 pc = .ok (.lshr, 1)) (hq : pc + 1 = q) (k : am_A G M X R q L (.long (jshrL x y) :: st) w c n) : am_A G M X R pc L (.int y :: .long x :: st) w c n := by
  subst hq
  exact fun H locs ls hH hL hS => lv_lshr C.1 C.2.1 hd rfl (k H locs ls hH hL hS)
theorem am_lushr {x : Int64} {y : Int32} (C : am_C G M X) (hd : decode M.2.1 pc = .ok (.lushr, 1)) (hq : pc + 1 = q) (k : am_A G M X R q L (.long (jushrL x y) :: st) w c n) : am_A G M X R pc L (.int y :: .long x :: st) w c n := by
  subst hq
  exact fun H locs ls hH hL hS => lv_lushr C.1 C.2.1 hd rfl (k H locs ls hH hL hS)
theorem am_i2l {x : Int32} (C : am_C G M X) (hd : decode M.2.1 pc = .ok (.i2l, 1)) (hq : pc + 1 = q) (k : am_A G M X R q L (.long x.toInt64 :: st) w c n) : am_A G M X R pc L (.int x :: st) w c n := by
  subst hq
  exact fun H locs ls hH hL hS => lv_i2l C.1 C.2.1 hd rfl (k H locs ls hH hL hS)
theorem am_l2i {x : Int64} (C : am_C G M X) (hd : decode M.2.1 pc = .ok (.l2i, 1)) (hq : pc + 1 = q) (k : am_A G M X R q L (.int x.toInt32 :: st) w c n) : am_A G M X R pc L (.long x :: st) w c n := by
  subst hq
  exact fun H locs ls hH hL hS => lv_l2i C.1 C.2.1 hd rfl (k H locs ls hH hL hS)
theorem am_i2b {x : Int32} (C : am_C G M X) (hd : decode M.2.1 pc = .ok (.i2b, 1)) (hq : pc + 1 = q) (k : am_A G M X R q L (.int x.toInt8.toInt32 :: st) w c n) : am_A G M X R pc L (.int x :: st) w c n := by
  subst hq
  exact fun H locs ls hH hL hS => lv_i2b C.1 C.2.1 hd rfl (k H locs ls hH hL hS)
theorem am_i2s {x : Int32} (C : am_C G M X) (hd : decode M.2.1 pc = .ok (.i2s, 1)) (hq : pc + 1 = q) (k : am_A G M X R q L (.int x.toInt16.toInt32 :: st) w c n) : am_A G M X R pc L (.int x :: st) w c n := by
  subst hq
  exact fun H locs ls hH hL hS => lv_i2s C.1 C.2.1 hd rfl (k H locs ls hH hL hS)
theorem am_i2c {x : Int32} (C : am_C G M X) (hd : decode M.2.1 pc = .ok (.i2c, 1)) (hq : pc + 1 = q) (k : am_A G M X R q L (.int (x.toUInt32 % 65536).toInt32 :: st) w c n) : am_A G M X R pc L (.int x :: st) w c n := by
  subst hq
  exact fun H locs ls hH hL hS => lv_i2c C.1 C.2.1 hd rfl (k H locs ls hH hL hS)
theorem am_iconst {z : Int} {v : Int32} (C : am_C G M X) (hd : decode M.2.1 pc = .ok (.iconst z, 1)) (hq : pc + 1 = q) (hv : Int32.ofInt z = v) (k : am_A G M X R q L (.int v :: st) w c n) : am_A G M X R pc L (st) w c n := by
  subst hq
  exact fun H locs ls hH hL hS => lv_iconst C.1 C.2.1 hd hv (k H locs ls hH hL hS)
theorem am_bipush {z : Int} {v : Int32} (C : am_C G M X) (hd : decode M.2.1 pc = .ok (.bipush z, 2)) (hq : pc + 2 = q) (hv : (Int8.ofInt z).toInt32 = v) (k : am_A G M X R q L (.int v :: st) w c n) : am_A G M X R pc L (st) w c n := by
  subst hq
  exact fun H locs ls hH hL hS => lv_bipush C.1 C.2.1 hd hv (k H locs ls hH hL hS)
theorem am_sipush {z : Int} {v : Int32} (C : am_C G M X) (hd : decode M.2.1 pc = .ok (.sipush z, 3)) (hq : pc + 3 = q) (hv : (Int16.ofInt z).toInt32 = v) (k : am_A G M X R q L (.int v :: st) w c n) : am_A G M X R pc L (st) w c n := by
  subst hq
  exact fun H locs ls hH hL hS => lv_sipush C.1 C.2.1 hd hv (k H locs ls hH hL hS)
theorem am_lconst {z : Fin 2} {v : Int64} (C : am_C G M X) (hd : decode M.2.1 pc = .ok (.lconst z, 1)) (hq : pc + 1 = q) (hv : Int64.ofNat (z : Nat) = v) (k : am_A G M X R q L (.long v :: st) w c n) : am_A G M X R pc L (st) w c n := by
  subst hq
  exact fun H locs ls hH hL hS => lv_lconst C.1 C.2.1 hd hv (k H locs ls hH hL hS)
theorem am_null (C : am_C G M X) (hd : decode M.2.1 pc = .ok (.aconst_null, 1)) (hq : pc + 1 = q) (k : am_A G M X R q L (.null :: st) w c n) : am_A G M X R pc L (st) w c n := by
  subst hq
  exact fun H locs ls hH hL hS => lv_null C.1 C.2.1 hd (k H locs ls hH hL hS)
theorem am_ldc {i : Nat} {v : Int32} (C : am_C G M X) (hd : decode M.2.1 pc = .ok (.ldc i, 2)) (hq : pc + 2 = q) (hw : Cond.constant M.1.cls i v ∈ am_ws) (k : am_A G M X R q L (.int v :: st) w c n) : am_A G M X R pc L st w c n := by
  subst hq
  exact fun H locs ls hH hL hS => lv_ldc C.1 C.2.1 C.2.2.2.2.1 (C.2.2.2.2.2.1 _ hw) hd (k H locs ls hH hL hS)
theorem am_ldcw {i : Nat} {v : Int32} (C : am_C G M X) (hd : decode M.2.1 pc = .ok (.ldc_w i, 3)) (hq : pc + 3 = q) (hw : Cond.constant M.1.cls i v ∈ am_ws) (k : am_A G M X R q L (.int v :: st) w c n) : am_A G M X R pc L st w c n := by
  subst hq
  exact fun H locs ls hH hL hS => lv_ldcw C.1 C.2.1 C.2.2.2.2.1 (C.2.2.2.2.2.1 _ hw) hd (k H locs ls hH hL hS)
theorem am_ldc2 {i : Nat} {v : Int64} (C : am_C G M X) (hd : decode M.2.1 pc = .ok (.ldc2_w i, 3)) (hq : pc + 3 = q) (hw : Cond.constantLong M.1.cls i v ∈ am_ws) (k : am_A G M X R q L (.long v :: st) w c n) : am_A G M X R pc L st w c n := by
  subst hq
  exact fun H locs ls hH hL hS => lv_ldc2 C.1 C.2.1 C.2.2.2.2.1 (C.2.2.2.2.2.1 _ hw) hd (k H locs ls hH hL hS)
theorem am_iload_n {k4 : Fin 4} {x : Int32} (C : am_C G M X) (hd : decode M.2.1 pc = .ok (.iload_n k4, 1)) (hq : pc + 1 = q) (hl : L[(k4 : Nat)]? = some (some (.int x))) (k : am_A G M X R q L (.int x :: st) w c n) : am_A G M X R pc L st w c n := by
  subst hq
  exact fun H locs ls hH hL hS => lv_iload_n C.1 C.2.1 hd rfl (hL.2.2 _ _ hl) (k H locs ls hH hL hS)
theorem am_iload {i : Nat} {x : Int32} (C : am_C G M X) (hd : decode M.2.1 pc = .ok (.iload i, 2)) (hq : pc + 2 = q) (hl : L[i]? = some (some (.int x))) (k : am_A G M X R q L (.int x :: st) w c n) : am_A G M X R pc L st w c n := by
  subst hq
  exact fun H locs ls hH hL hS => lv_iload C.1 C.2.1 hd (hL.2.2 _ _ hl) (k H locs ls hH hL hS)
theorem am_lload_n {k4 : Fin 4} {x : Int64} (C : am_C G M X) (hd : decode M.2.1 pc = .ok (.lload_n k4, 1)) (hq : pc + 1 = q) (hl : L[(k4 : Nat)]? = some (some (.long x))) (k : am_A G M X R q L (.long x :: st) w c n) : am_A G M X R pc L st w c n := by
  subst hq
  exact fun H locs ls hH hL hS => lv_lload_n C.1 C.2.1 hd rfl (hL.2.2 _ _ hl) (k H locs ls hH hL hS)
theorem am_lload {i : Nat} {x : Int64} (C : am_C G M X) (hd : decode M.2.1 pc = .ok (.lload i, 2)) (hq : pc + 2 = q) (hl : L[i]? = some (some (.long x))) (k : am_A G M X R q L (.long x :: st) w c n) : am_A G M X R pc L st w c n := by
  subst hq
  exact fun H locs ls hH hL hS => lv_lload C.1 C.2.1 hd (hL.2.2 _ _ hl) (k H locs ls hH hL hS)
theorem am_aload_n {k4 : Fin 4} {x : Nat} (C : am_C G M X) (hd : decode M.2.1 pc = .ok (.aload_n k4, 1)) (hq : pc + 1 = q) (hl : L[(k4 : Nat)]? = some (some (.ref x))) (k : am_A G M X R q L (.ref x :: st) w c n) : am_A G M X R pc L st w c n := by
  subst hq
  exact fun H locs ls hH hL hS => lv_aload_n C.1 C.2.1 hd rfl (hL.2.2 _ _ hl) (k H locs ls hH hL hS)
theorem am_aload {i : Nat} {x : Nat} (C : am_C G M X) (hd : decode M.2.1 pc = .ok (.aload i, 2)) (hq : pc + 2 = q) (hl : L[i]? = some (some (.ref x))) (k : am_A G M X R q L (.ref x :: st) w c n) : am_A G M X R pc L st w c n := by
  subst hq
  exact fun H locs ls hH hL hS => lv_aload C.1 C.2.1 hd (hL.2.2 _ _ hl) (k H locs ls hH hL hS)
theorem am_aload_nN {k4 : Fin 4} (C : am_C G M X) (hd : decode M.2.1 pc = .ok (.aload_n k4, 1)) (hq : pc + 1 = q) (hl : L[(k4 : Nat)]? = some (some .null)) (k : am_A G M X R q L (.null :: st) w c n) : am_A G M X R pc L st w c n := by
  subst hq
  exact fun H locs ls hH hL hS => lv_aload_nN C.1 C.2.1 hd rfl (hL.2.2 _ _ hl) (k H locs ls hH hL hS)
theorem am_aloadN {i : Nat} (C : am_C G M X) (hd : decode M.2.1 pc = .ok (.aload i, 2)) (hq : pc + 2 = q) (hl : L[i]? = some (some .null)) (k : am_A G M X R q L (.null :: st) w c n) : am_A G M X R pc L st w c n := by
  subst hq
  exact fun H locs ls hH hL hS => lv_aloadN C.1 C.2.1 hd (hL.2.2 _ _ hl) (k H locs ls hH hL hS)
theorem am_istore_n {k4 : Fin 4} {x : Int32} {L' : List (Option Value)} (C : am_C G M X) (hd : decode M.2.1 pc = .ok (.istore_n k4, 1)) (hq : pc + 1 = q) (hi : (k4 : Nat) < M.2.2.1) (hn : am_nd L = true) (hs : am_st1 L (k4 : Nat) (.int x) = L') (k : am_A G M X R q L' st w c n) : am_A G M X R pc L (.int x :: st) w c n := by
  subst hq
  subst hs
  exact fun H locs ls hH hL hS => lv_istore_n C.1 C.2.1 hd rfl hL.has hi rfl (fun ls' h2 => k H locs ls' hH (am_L.st1 (v := .int x) rfl (am_nd_ok hn) h2) hS)
theorem am_istore {i : Nat} {x : Int32} {L' : List (Option Value)} (C : am_C G M X) (hd : decode M.2.1 pc = .ok (.istore i, 2)) (hq : pc + 2 = q) (hi : i < M.2.2.1) (hn : am_nd L = true) (hs : am_st1 L i (.int x) = L') (k : am_A G M X R q L' st w c n) : am_A G M X R pc L (.int x :: st) w c n := by
  subst hq
  subst hs
  exact fun H locs ls hH hL hS => lv_istore C.1 C.2.1 hd hL.has hi rfl (fun ls' h2 => k H locs ls' hH (am_L.st1 (v := .int x) rfl (am_nd_ok hn) h2) hS)
theorem am_lstore_n {k4 : Fin 4} {x : Int64} {L' : List (Option Value)} (C : am_C G M X) (hd : decode M.2.1 pc = .ok (.lstore_n k4, 1)) (hq : pc + 1 = q) (hi : (k4 : Nat) + 1 < M.2.2.1) (hn : am_nd L = true) (hs : am_st2 L (k4 : Nat) (.long x) = L') (k : am_A G M X R q L' st w c n) : am_A G M X R pc L (.long x :: st) w c n := by
  subst hq
  subst hs
  exact fun H locs ls hH hL hS => lv_lstore_n C.1 C.2.1 hd rfl hL.has hi rfl (fun ls' h2 => k H locs ls' hH (am_L.st2 (v := .long x) (am_nd_ok hn) h2) hS)
theorem am_lstore {i : Nat} {x : Int64} {L' : List (Option Value)} (C : am_C G M X) (hd : decode M.2.1 pc = .ok (.lstore i, 2)) (hq : pc + 2 = q) (hi : i + 1 < M.2.2.1) (hn : am_nd L = true) (hs : am_st2 L i (.long x) = L') (k : am_A G M X R q L' st w c n) : am_A G M X R pc L (.long x :: st) w c n := by
  subst hq
  subst hs
  exact fun H locs ls hH hL hS => lv_lstore C.1 C.2.1 hd hL.has hi rfl (fun ls' h2 => k H locs ls' hH (am_L.st2 (v := .long x) (am_nd_ok hn) h2) hS)
theorem am_astore_n {k4 : Fin 4} {x : Nat} {L' : List (Option Value)} (C : am_C G M X) (hd : decode M.2.1 pc = .ok (.astore_n k4, 1)) (hq : pc + 1 = q) (hi : (k4 : Nat) < M.2.2.1) (hn : am_nd L = true) (hs : am_st1 L (k4 : Nat) (.ref x) = L') (k : am_A G M X R q L' st w c n) : am_A G M X R pc L (.ref x :: st) w c n := by
  subst hq
  subst hs
  exact fun H locs ls hH hL hS => lv_astore_n C.1 C.2.1 hd rfl hL.has hi rfl (fun ls' h2 => k H locs ls' hH (am_L.st1 (v := .ref x) rfl (am_nd_ok hn) h2) hS)
theorem am_astore {i : Nat} {x : Nat} {L' : List (Option Value)} (C : am_C G M X) (hd : decode M.2.1 pc = .ok (.astore i, 2)) (hq : pc + 2 = q) (hi : i < M.2.2.1) (hn : am_nd L = true) (hs : am_st1 L i (.ref x) = L') (k : am_A G M X R q L' st w c n) : am_A G M X R pc L (.ref x :: st) w c n := by
  subst hq
  subst hs
  exact fun H locs ls hH hL hS => lv_astore C.1 C.2.1 hd hL.has hi rfl (fun ls' h2 => k H locs ls' hH (am_L.st1 (v := .ref x) rfl (am_nd_ok hn) h2) hS)
theorem am_astore_nN {k4 : Fin 4} {L' : List (Option Value)} (C : am_C G M X) (hd : decode M.2.1 pc = .ok (.astore_n k4, 1)) (hq : pc + 1 = q) (hi : (k4 : Nat) < M.2.2.1) (hn : am_nd L = true) (hs : am_st1 L (k4 : Nat) (.null) = L') (k : am_A G M X R q L' st w c n) : am_A G M X R pc L (.null :: st) w c n := by
  subst hq
  subst hs
  exact fun H locs ls hH hL hS => lv_astore_nN C.1 C.2.1 hd rfl hL.has hi rfl (fun ls' h2 => k H locs ls' hH (am_L.st1 (v := .null) rfl (am_nd_ok hn) h2) hS)
theorem am_astoreN {i : Nat} {L' : List (Option Value)} (C : am_C G M X) (hd : decode M.2.1 pc = .ok (.astore i, 2)) (hq : pc + 2 = q) (hi : i < M.2.2.1) (hn : am_nd L = true) (hs : am_st1 L i (.null) = L') (k : am_A G M X R q L' st w c n) : am_A G M X R pc L (.null :: st) w c n := by
  subst hq
  subst hs
  exact fun H locs ls hH hL hS => lv_astoreN C.1 C.2.1 hd hL.has hi rfl (fun ls' h2 => k H locs ls' hH (am_L.st1 (v := .null) rfl (am_nd_ok hn) h2) hS)
theorem am_iinc {i : Nat} {z : Int} {x v : Int32} {L' : List (Option Value)} (C : am_C G M X) (hd : decode M.2.1 pc = .ok (.iinc i z, 3)) (hq : pc + 3 = q) (hl : L[i]? = some (some (.int x))) (hv : x + Int32.ofInt z = v) (hi : i < M.2.2.1) (hn : am_nd L = true) (hs : am_st1 L i (.int v) = L') (k : am_A G M X R q L' st w c n) : am_A G M X R pc L st w c n := by
  subst hq
  subst hs
  intro H locs ls hH hL hS
  have h1 : lv_has ls M.2.2.1 ((i, .int x) :: am_lv G L) := ⟨hL.1, hL.2.1, fun z hz => (List.mem_cons.mp hz).elim (fun e => by subst e; exact hL.2.2 _ _ hl) (fun h => hL.has.2.2 z h)⟩
  refine lv_iinc C.1 C.2.1 hd h1 (k := 0) rfl hv hi rfl (fun ls' h2 => k H locs ls' hH (am_L.st1 (v := .int v) rfl (am_nd_ok hn) ⟨h2.1, h2.2.1, fun z hz => h2.2.2 z ?_⟩) hS)
  rcases List.mem_cons.mp hz with e | e
  · rw [e]; exact List.mem_cons_self
  · obtain ⟨e1, e2⟩ := List.mem_filter.mp e
    exact List.mem_cons_of_mem _ (List.mem_filter.mpr ⟨List.mem_cons_of_mem _ e1, e2⟩)
theorem am_if_eq {x : Int32} {off : Int} {tgt : Nat} (C : am_C G M X) (hd : decode M.2.1 pc = .ok (.ifCond .eq off, 3)) (ht : (pc : Int) + off = (tgt : Int)) (hq : pc + 3 = q) (kt : x = 0 → am_A G M X R tgt L st w c n) (kf : ¬ (x = 0) → am_A G M X R q L st w c n) : am_A G M X R pc L (.int x :: st) w c n := by
  subst hq
  exact fun H locs ls hH hL hS => lv_if_eq C.1 C.2.1 hd ht (fun z => kt z H locs ls hH hL hS) (fun z => kf z H locs ls hH hL hS)
theorem am_icmp_eq {x y : Int32} {off : Int} {tgt : Nat} (C : am_C G M X) (hd : decode M.2.1 pc = .ok (.if_icmp .eq off, 3)) (ht : (pc : Int) + off = (tgt : Int)) (hq : pc + 3 = q) (kt : x = y → am_A G M X R tgt L st w c n) (kf : ¬ (x = y) → am_A G M X R q L st w c n) : am_A G M X R pc L (.int y :: .int x :: st) w c n := by
  subst hq
  exact fun H locs ls hH hL hS => lv_icmp_eq C.1 C.2.1 hd ht (fun z => kt z H locs ls hH hL hS) (fun z => kf z H locs ls hH hL hS)
theorem am_if_ne {x : Int32} {off : Int} {tgt : Nat} (C : am_C G M X) (hd : decode M.2.1 pc = .ok (.ifCond .ne off, 3)) (ht : (pc : Int) + off = (tgt : Int)) (hq : pc + 3 = q) (kt : ¬ x = 0 → am_A G M X R tgt L st w c n) (kf : x = 0 → am_A G M X R q L st w c n) : am_A G M X R pc L (.int x :: st) w c n := by
  subst hq
  exact fun H locs ls hH hL hS => lv_if_ne C.1 C.2.1 hd ht (fun z => kt z H locs ls hH hL hS) (fun z => kf z H locs ls hH hL hS)
theorem am_icmp_ne {x y : Int32} {off : Int} {tgt : Nat} (C : am_C G M X) (hd : decode M.2.1 pc = .ok (.if_icmp .ne off, 3)) (ht : (pc : Int) + off = (tgt : Int)) (hq : pc + 3 = q) (kt : ¬ x = y → am_A G M X R tgt L st w c n) (kf : x = y → am_A G M X R q L st w c n) : am_A G M X R pc L (.int y :: .int x :: st) w c n := by
  subst hq
  exact fun H locs ls hH hL hS => lv_icmp_ne C.1 C.2.1 hd ht (fun z => kt z H locs ls hH hL hS) (fun z => kf z H locs ls hH hL hS)
theorem am_if_lt {x : Int32} {off : Int} {tgt : Nat} (C : am_C G M X) (hd : decode M.2.1 pc = .ok (.ifCond .lt off, 3)) (ht : (pc : Int) + off = (tgt : Int)) (hq : pc + 3 = q) (kt : x < 0 → am_A G M X R tgt L st w c n) (kf : ¬ (x < 0) → am_A G M X R q L st w c n) : am_A G M X R pc L (.int x :: st) w c n := by
  subst hq
  exact fun H locs ls hH hL hS => lv_if_lt C.1 C.2.1 hd ht (fun z => kt z H locs ls hH hL hS) (fun z => kf z H locs ls hH hL hS)
theorem am_icmp_lt {x y : Int32} {off : Int} {tgt : Nat} (C : am_C G M X) (hd : decode M.2.1 pc = .ok (.if_icmp .lt off, 3)) (ht : (pc : Int) + off = (tgt : Int)) (hq : pc + 3 = q) (kt : x < y → am_A G M X R tgt L st w c n) (kf : ¬ (x < y) → am_A G M X R q L st w c n) : am_A G M X R pc L (.int y :: .int x :: st) w c n := by
  subst hq
  exact fun H locs ls hH hL hS => lv_icmp_lt C.1 C.2.1 hd ht (fun z => kt z H locs ls hH hL hS) (fun z => kf z H locs ls hH hL hS)
theorem am_if_ge {x : Int32} {off : Int} {tgt : Nat} (C : am_C G M X) (hd : decode M.2.1 pc = .ok (.ifCond .ge off, 3)) (ht : (pc : Int) + off = (tgt : Int)) (hq : pc + 3 = q) (kt : 0 ≤ x → am_A G M X R tgt L st w c n) (kf : ¬ (0 ≤ x) → am_A G M X R q L st w c n) : am_A G M X R pc L (.int x :: st) w c n := by
  subst hq
  exact fun H locs ls hH hL hS => lv_if_ge C.1 C.2.1 hd ht (fun z => kt z H locs ls hH hL hS) (fun z => kf z H locs ls hH hL hS)
theorem am_icmp_ge {x y : Int32} {off : Int} {tgt : Nat} (C : am_C G M X) (hd : decode M.2.1 pc = .ok (.if_icmp .ge off, 3)) (ht : (pc : Int) + off = (tgt : Int)) (hq : pc + 3 = q) (kt : y ≤ x → am_A G M X R tgt L st w c n) (kf : ¬ (y ≤ x) → am_A G M X R q L st w c n) : am_A G M X R pc L (.int y :: .int x :: st) w c n := by
  subst hq
  exact fun H locs ls hH hL hS => lv_icmp_ge C.1 C.2.1 hd ht (fun z => kt z H locs ls hH hL hS) (fun z => kf z H locs ls hH hL hS)
theorem am_if_gt {x : Int32} {off : Int} {tgt : Nat} (C : am_C G M X) (hd : decode M.2.1 pc = .ok (.ifCond .gt off, 3)) (ht : (pc : Int) + off = (tgt : Int)) (hq : pc + 3 = q) (kt : 0 < x → am_A G M X R tgt L st w c n) (kf : ¬ (0 < x) → am_A G M X R q L st w c n) : am_A G M X R pc L (.int x :: st) w c n := by
  subst hq
  exact fun H locs ls hH hL hS => lv_if_gt C.1 C.2.1 hd ht (fun z => kt z H locs ls hH hL hS) (fun z => kf z H locs ls hH hL hS)
theorem am_icmp_gt {x y : Int32} {off : Int} {tgt : Nat} (C : am_C G M X) (hd : decode M.2.1 pc = .ok (.if_icmp .gt off, 3)) (ht : (pc : Int) + off = (tgt : Int)) (hq : pc + 3 = q) (kt : y < x → am_A G M X R tgt L st w c n) (kf : ¬ (y < x) → am_A G M X R q L st w c n) : am_A G M X R pc L (.int y :: .int x :: st) w c n := by
  subst hq
  exact fun H locs ls hH hL hS => lv_icmp_gt C.1 C.2.1 hd ht (fun z => kt z H locs ls hH hL hS) (fun z => kf z H locs ls hH hL hS)
theorem am_if_le {x : Int32} {off : Int} {tgt : Nat} (C : am_C G M X) (hd : decode M.2.1 pc = .ok (.ifCond .le off, 3)) (ht : (pc : Int) + off = (tgt : Int)) (hq : pc + 3 = q) (kt : x ≤ 0 → am_A G M X R tgt L st w c n) (kf : ¬ (x ≤ 0) → am_A G M X R q L st w c n) : am_A G M X R pc L (.int x :: st) w c n := by
  subst hq
  exact fun H locs ls hH hL hS => lv_if_le C.1 C.2.1 hd ht (fun z => kt z H locs ls hH hL hS) (fun z => kf z H locs ls hH hL hS)
theorem am_icmp_le {x y : Int32} {off : Int} {tgt : Nat} (C : am_C G M X) (hd : decode M.2.1 pc = .ok (.if_icmp .le off, 3)) (ht : (pc : Int) + off = (tgt : Int)) (hq : pc + 3 = q) (kt : x ≤ y → am_A G M X R tgt L st w c n) (kf : ¬ (x ≤ y) → am_A G M X R q L st w c n) : am_A G M X R pc L (.int y :: .int x :: st) w c n := by
  subst hq
  exact fun H locs ls hH hL hS => lv_icmp_le C.1 C.2.1 hd ht (fun z => kt z H locs ls hH hL hS) (fun z => kf z H locs ls hH hL hS)
theorem am_goto {off : Int} (C : am_C G M X) (hd : decode M.2.1 pc = .ok (.goto off, 3)) (ht : (pc : Int) + off = (q : Int)) (k : am_A G M X R q L st w c n) : am_A G M X R pc L st w c n :=
  fun H locs ls hH hL hS => lv_goto C.1 C.2.1 hd ht (k H locs ls hH hL hS)
theorem am_ifnull {x : Nat} {off : Int} (C : am_C G M X) (hd : decode M.2.1 pc = .ok (.ifnull off, 3)) (hq : pc + 3 = q) (k : am_A G M X R q L st w c n) : am_A G M X R pc L (.ref x :: st) w c n := by
  subst hq
  exact fun H locs ls hH hL hS => lv_ifnull C.1 C.2.1 hd (k H locs ls hH hL hS)
theorem am_ifnullN {off : Int} (C : am_C G M X) (hd : decode M.2.1 pc = .ok (.ifnull off, 3)) (ht : (pc : Int) + off = (q : Int)) (k : am_A G M X R q L st w c n) : am_A G M X R pc L (.null :: st) w c n :=
  fun H locs ls hH hL hS => lv_ifnullN C.1 C.2.1 hd ht (k H locs ls hH hL hS)
theorem am_ifnonnull {x : Nat} {off : Int} (C : am_C G M X) (hd : decode M.2.1 pc = .ok (.ifnonnull off, 3)) (ht : (pc : Int) + off = (q : Int)) (k : am_A G M X R q L st w c n) : am_A G M X R pc L (.ref x :: st) w c n :=
  fun H locs ls hH hL hS => lv_ifnonnull C.1 C.2.1 hd ht (k H locs ls hH hL hS)
theorem am_ifnonnullN {off : Int} (C : am_C G M X) (hd : decode M.2.1 pc = .ok (.ifnonnull off, 3)) (hq : pc + 3 = q) (k : am_A G M X R q L st w c n) : am_A G M X R pc L (.null :: st) w c n := by
  subst hq
  exact fun H locs ls hH hL hS => lv_ifnonnullN C.1 C.2.1 hd (k H locs ls hH hL hS)
theorem am_dup {v : Value} (C : am_C G M X) (hd : decode M.2.1 pc = .ok (.dup, 1)) (hq : pc + 1 = q) (hv : v.category = 1) (k : am_A G M X R q L (v :: v :: st) w c n) : am_A G M X R pc L (v :: st) w c n := by
  subst hq
  exact fun H locs ls hH hL hS => lv_dup C.1 C.2.1 hd ((am_cat G v).trans hv) (k H locs ls hH hL hS)
theorem am_dup2 {v u : Value} (C : am_C G M X) (hd : decode M.2.1 pc = .ok (.dup2, 1)) (hq : pc + 1 = q) (hv : v.category = 1) (hu : u.category = 1) (k : am_A G M X R q L (v :: u :: v :: u :: st) w c n) : am_A G M X R pc L (v :: u :: st) w c n := by
  subst hq
  exact fun H locs ls hH hL hS => lv_dup2_11 C.1 C.2.1 hd ((am_cat G v).trans hv) ((am_cat G u).trans hu) (k H locs ls hH hL hS)
theorem am_pop {v : Value} (C : am_C G M X) (hd : decode M.2.1 pc = .ok (.pop, 1)) (hq : pc + 1 = q) (hv : v.category = 1) (k : am_A G M X R q L st w c n) : am_A G M X R pc L (v :: st) w c n := by
  subst hq
  exact fun H locs ls hH hL hS => lv_pop C.1 C.2.1 hd ((am_cat G v).trans hv) (k H locs ls hH hL hS)
theorem am_lcmp {x y : Int64} (C : am_C G M X) (hd : decode M.2.1 pc = .ok (.lcmp, 1)) (hq : pc + 1 = q) (k : am_A G M X R q L (.int (lg_cmp x y) :: st) w c n) : am_A G M X R pc L (.long y :: .long x :: st) w c n := by
  subst hq
  exact fun H locs ls hH hL hS => W.lcmp C.1 C.2.1 hd (k H locs ls hH hL hS)
theorem am_tableOut {dflt lo hi : Int} {offs : Array Int} {len : Nat} {x : Int32} (C : am_C G M X) (hd : decode M.2.1 pc = .ok (.tableswitch dflt lo hi offs, len)) (h : x.toInt < lo ∨ hi < x.toInt) (ht : (pc : Int) + dflt = (q : Int)) (k : am_A G M X R q L st w c n) : am_A G M X R pc L (.int x :: st) w c n :=
  fun H locs ls hH hL hS => lv_tableOut C.1 C.2.1 hd h ht (k H locs ls hH hL hS)
theorem am_tableIn {dflt lo hi off : Int} {offs : Array Int} {len : Nat} {x : Int32} (C : am_C G M X) (hd : decode M.2.1 pc = .ok (.tableswitch dflt lo hi offs, len)) (h1 : ¬ x.toInt < lo) (h2 : ¬ hi < x.toInt) (ho : offs[(x.toInt - lo).toNat]? = some off) (ht : (pc : Int) + off = (q : Int)) (k : am_A G M X R q L st w c n) : am_A G M X R pc L (.int x :: st) w c n :=
  fun H locs ls hH hL hS => lv_tableIn C.1 C.2.1 hd h1 h2 ho ht (k H locs ls hH hL hS)
theorem am_lookup {dflt off : Int} {ps : Array (Int × Int)} {len : Nat} {x : Int32} (C : am_C G M X) (hd : decode M.2.1 pc = .ok (.lookupswitch dflt ps, len)) (hp : (ps.toList.zip (ps.toList.drop 1)).all (fun (a, next) => a.1 < next.1) = true) (ho : Op.lookupswitch.offset ps.toList dflt x.toInt = off) (ht : (pc : Int) + off = (q : Int)) (k : am_A G M X R q L st w c n) : am_A G M X R pc L (.int x :: st) w c n :=
  fun H locs ls hH hL hS => lv_lookup C.1 C.2.1 hd hp ho ht (k H locs ls hH hL hS)
end AM
