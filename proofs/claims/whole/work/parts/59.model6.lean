variable {G : am_G} {I : Nat → Nat → Int32} {J : Nat → Nat → Int64}
theorem lN_subN {a b : Nat} (h : b ≤ a) : lN a - lN b = lN (a - b) := by
  obtain ⟨k, rfl⟩ : ∃ k, a = k + b := ⟨a - b, by omega⟩
  rw [← lN_add k b, Int64.add_sub_cancel, Nat.add_sub_cancel]
theorem thr_0 (t : PT) (p x y : Nat) : thr t p x y 0 = bitOf (ps t p) 0 * Wy t (pm t - (p + 1)) x y := by
  unfold thr
  rw [if_pos (by omega), Nat.zero_mul, Nat.zero_mul, Nat.sub_zero, Nat.sub_zero]
theorem thr_k (t : PT) {p x y k : Nat} (h : k * pa t p ≤ x ∧ k * pb t p ≤ y) : thr t p x y k = bitOf (ps t p) k * Wy t (pm t - (p + 1)) (x - k * pa t p) (y - k * pb t p) := by
  unfold thr
  rw [if_pos h]
theorem thr_in (t : PT) (p x y : Nat) : ∀ n k, 0 < sumK (thr t p x y) n k → k * pa t p ≤ x ∧ k * pb t p ≤ y
  | 0, k, h => absurd h (Nat.lt_irrefl _)
  | n + 1, k, h => by
    have h : 0 < thr t p x y k + sumK (thr t p x y) n (k + 1) := h
    by_cases e : k * pa t p ≤ x ∧ k * pb t p ≤ y
    · exact e
    · have e0 : thr t p x y k = 0 := by unfold thr; rw [if_neg e, Nat.mul_zero]
      have ih := thr_in t p x y n (k + 1) (by omega)
      rw [Nat.add_mul, Nat.add_mul] at ih
      exact ⟨by omega, by omega⟩
theorem tkk_no {g : Nat → Nat} {k r : Nat} (h : r < g k) : ∀ n, tkk g n k r = (k, r)
  | 0 => rfl
  | n + 1 => by
    show (if g k ≤ r then _ else _) = _
    rw [if_neg (by omega)]
theorem tkk_1 {g : Nat → Nat} {k r n : Nat} (h : g k ≤ r) : tkk g (n + 1) k r = tkk g n (k + 1) (r - g k) := by
  show (if g k ≤ r then _ else _) = _
  rw [if_pos h]
theorem sumK_1 (g : Nat → Nat) (n k : Nat) : sumK g (n + 1) k = g k + sumK g n (k + 1) := rfl
theorem bit_0 {s : Nat} (hs : s < 2 ^ 61) : lN s &&& lN 1 = lN (bitOf s 0) := by
  have e : bitOf s 0 = s % 2 := by unfold bitOf; rw [Nat.pow_zero, Nat.div_one]
  rw [e]
  exact wb_a1 (by omega)
theorem tak_1 (t : PT) (part n p x y r : Nat) : tak t part (n + 1) p x y r = if p = part then (tkk (thr t p x y) 60 0 r).1 else tak t part n (p + 1) (x - (tkk (thr t p x y) 60 0 r).1 * pa t p) (y - (tkk (thr t p x y) 60 0 r).1 * pb t p) (tkk (thr t p x y) 60 0 r).2 := rfl
set_option maxRecDepth 4000 in
theorem sp_X11_way {σ : SG} (hM : atM I J σ) {x y i p : Int} (hx : rg x) (hy : rg y) (hi : rg i) (hp : rg p) : am_S G mX11_way 3 0 0 [.ref 191, .int (iZ x), .int (iZ y), .int (iZ i), .int (iZ p)] (215, kK, kR, I, J) (am_qi (fun v w' => v = iZ (if (0 ≤ x ∧ x ≤ 60 ∧ 0 ≤ y ∧ y ≤ 60) ∧ 0 ≤ i ∧ 0 ≤ p ∧ p < pm σ.1 then (if i.toNat < Wy σ.1 (pm σ.1) x.toNat y.toNat then (tak σ.1 p.toNat (p.toNat + 1) 0 x.toNat y.toNat i.toNat : Int) else -3) else -1) ∧ ∃ (I' : Nat → Nat → Int32) (J' : Nat → Nat → Int64), w' = (215, kK, kR, I', J') ∧ atM I' J' (σ) ∧ frM I J I' J')) := by
  have hQ := hM.1
  have hK := hM.2.1
  have hm := hM.2.1.1
  have hL := hM.2.2.1
  have hi2 := hi.2
  refine am_spec (plainFor_of_name (by decide +kernel)) (Nat.le_of_ble_eq_true rfl) (L := [some (.ref 191), some (.int (iZ x)), some (.int (iZ y)), some (.int (iZ i)), some (.int (iZ p)), none, none, none, none, none, none, none, none]) rfl (fun X C T => ?_)
  refine am_iload_n (q := 1) C dX11_way_0 rfl rfl ?_
  refine am_iload_n (q := 2) C dX11_way_1 rfl rfl ?_
  refine am_bipush (q := 4) (v := iZ 60) C dX11_way_2 rfl rfl ?_
  refine am_callS (q := 7) (As := [.int (iZ x), .int (iZ y), .int (iZ 60)]) (rest := []) C mb_X11_isPoint st_X11_isPoint ml_X11_175 dX11_way_4 rfl (sp_X11_isPoint (c := 60) hx hy ⟨by omega, by omega⟩) rfl rfl ⟨by decide, by decide⟩ ⟨Nat.le_refl _, Nat.le_refl _⟩ (Nat.le_of_ble_eq_true rfl) (am_rie ?_)
  refine am_ifB_eq (q := 10) (tgt := 23) C dX11_way_7 (by decide) rfl (fun c1 => ?_) (fun c1 => ?_)
  · refine am_iconst (q := 24) (v := iZ (-1)) C dX11_way_23 rfl rfl ?_
    refine am_iret C T dX11_way_24 rfl (Nat.le_refl _) (Nat.le_refl _) ⟨_, rfl, ?_⟩
    rw [if_neg (by omega)]
    exact ⟨rfl, _, _, rfl, hM, frM_refl⟩
  · refine am_iload_n (q := 11) C dX11_way_10 rfl rfl ?_
    refine am_ifZ_lt (q := 14) (tgt := 23) C dX11_way_11 (by decide) rfl hi (fun c2 => ?_) (fun c2 => ?_)
    · refine am_iconst (q := 24) (v := iZ (-1)) C dX11_way_23 rfl rfl ?_
      refine am_iret C T dX11_way_24 rfl (Nat.le_refl _) (Nat.le_refl _) ⟨_, rfl, ?_⟩
      rw [if_neg (by omega)]
      exact ⟨rfl, _, _, rfl, hM, frM_refl⟩
    · refine am_aload_n (q := 15) C dX11_way_14 rfl rfl ?_
      refine am_iload (q := 17) C dX11_way_15 rfl rfl ?_
      refine am_callV (q := 20) (As := [.int (iZ p)]) (rest := []) C mb_X11_isPart im_X11_isPart se_X11_isPart ml_X11_105 cb_11 kk_191 (show 191 < 215 by decide) dX11_way_17 rfl (sp_X11_isPart hQ hK hp) rfl rfl ⟨by decide, by decide⟩ ⟨Nat.le_refl _, Nat.le_refl _⟩ (Nat.le_of_ble_eq_true rfl) (am_rie ?_)
      refine am_ifB_ne (q := 23) (tgt := 25) C dX11_way_20 (by decide) rfl (fun c3 => ?_) (fun c3 => ?_)
      · obtain ⟨x1, rfl⟩ : ∃ q : Nat, x = q := ⟨x.toNat, by omega⟩
        obtain ⟨y1, rfl⟩ : ∃ q : Nat, y = q := ⟨y.toNat, by omega⟩
        obtain ⟨i1, rfl⟩ : ∃ q : Nat, i = q := ⟨i.toNat, by omega⟩
        obtain ⟨p1, rfl⟩ : ∃ q : Nat, p = q := ⟨p.toNat, by omega⟩
        simp only [Int.toNat_natCast] at T ⊢
        refine am_aload_n (q := 26) C dX11_way_25 rfl rfl ?_
        refine am_iload_n (q := 27) C dX11_way_26 rfl rfl ?_
        refine am_iload_n (q := 28) C dX11_way_27 rfl rfl ?_
        refine am_callV (q := 31) (As := [.int (iZ (x1 : Int)), .int (iZ (y1 : Int))]) (rest := []) C mb_X11_count im_X11_count se_X11_count ml_X11_180 cb_11 kk_191 (show 191 < 215 by decide) dX11_way_28 rfl (sp_X11_count hM.1 hM.2.1 (cx := x1) (cy := y1) (by omega) (by omega)) rfl rfl ⟨by decide, by decide⟩ ⟨Nat.le_refl _, Nat.le_refl _⟩ (Nat.le_of_ble_eq_true rfl) (am_rv (fun w' hw' => ?_))
        obtain ⟨J1, rfl, hJ, hT⟩ := hw'
        have li : ∀ (fuel : Nat) (q u v k n r r0 : Nat), (q < pm σ.1) → (u ≤ x1) → (v ≤ y1) → (k + n = 60) → (r < 2147483648) → (r < sumK (thr σ.1 q u v) (n + 1) k) → (tkk (thr σ.1 q u v) n k r = tkk (thr σ.1 q u v) 60 0 r0) → (n) < fuel → (am_A G mX11_way X (am_rm 3 0 0) 179 [some (.ref 191), some (.int (iZ (x1 : Int))), some (.int (iZ (y1 : Int))), some (.int (iZ (i1 : Int))), some (.int (iZ (p1 : Int))), some (.long (lN ((tkk (thr σ.1 q u v) 60 0 r0).2))), none, some (.int (iZ (u : Int))), some (.int (iZ (v : Int))), some (.int (iZ ((tkk (thr σ.1 q u v) 60 0 r0).1 : Int))), some (.int (iZ (q : Int))), none, none] [] (215, kK, kR, I, J1) 0 0) → am_A G mX11_way X (am_rm 3 0 0) 105 [some (.ref 191), some (.int (iZ (x1 : Int))), some (.int (iZ (y1 : Int))), some (.int (iZ (i1 : Int))), some (.int (iZ (p1 : Int))), some (.long (lN r)), none, some (.int (iZ (u : Int))), some (.int (iZ (v : Int))), some (.int (iZ (k : Int))), some (.int (iZ (q : Int))), some (.long (lN (thr σ.1 q u v k))), none] [] (215, kK, kR, I, J1) 0 0 := by
          intro fuel
          induction fuel with
          | zero => intro q u v k n r r0 hq hu hv hkn hr9 hsu htk hfu hk9; exact absurd hfu (Nat.not_lt_zero _)
          | succ fuel ih =>
            intro q u v k n r r0 hq hu hv hkn hr9 hsu htk hfu hk9
            refine am_lload (q := 107) C dX11_way_105 rfl rfl ?_
            refine am_lload (q := 109) C dX11_way_107 rfl rfl ?_
            refine am_lcmp (q := 110) C dX11_way_109 rfl ?_
            refine am_if_gt (q := 113) (tgt := 179) C dX11_way_110 (by decide) rfl (fun e1 => ?_) (fun e1 => ?_)
            · have e1 := ((lg_cmp_gt _ _).trans (pk_lLT (by omega) (by have := thr_le σ.1 hm q u v k; omega))).mp e1
              refine am_wkA (L1 := [some (.ref 191), some (.int (iZ (x1 : Int))), some (.int (iZ (y1 : Int))), some (.int (iZ (i1 : Int))), some (.int (iZ (p1 : Int))), some (.long (lN r)), none, some (.int (iZ (u : Int))), some (.int (iZ (v : Int))), some (.int (iZ (k : Int))), some (.int (iZ (q : Int))), none, none]) ⟨rfl, ⟨rfl, ⟨rfl, ⟨rfl, ⟨rfl, ⟨rfl, ⟨rfl, ⟨rfl, ⟨rfl, ⟨rfl, trivial⟩⟩⟩⟩⟩⟩⟩⟩⟩⟩ ?_
              have e8 := tkk_no (g := thr σ.1 q u v) (k := k) (r := r) (by omega) n
              rw [e8] at htk
              rw [← htk] at hk9
              exact hk9
            · have e1 : ¬ (_) := fun z => e1 (((lg_cmp_gt _ _).trans (pk_lLT (by omega) (by have := thr_le σ.1 hm q u v k; omega))).mpr z)
              obtain ⟨n1, rfl⟩ : ∃ n1, n = n1 + 1 := ⟨n - 1, (Nat.eq_zero_or_pos n).elim (fun z => by (subst z; rw [sumK_1] at hsu; have hz0 : sumK (thr σ.1 q u v) 0 (k + 1) = 0 := rfl; omega)) (fun z => by omega)⟩
              rw [sumK_1] at hsu
              have hin := thr_in σ.1 q u v (n1 + 1) (k + 1) (by omega)
              rw [tkk_1 (by omega)] at htk
              refine am_lload (q := 115) C dX11_way_113 rfl rfl ?_
              refine am_lload (q := 117) C dX11_way_115 rfl rfl ?_
              refine am_lsub (q := 118) C dX11_way_117 rfl ?_
              refine am_longE (y := (lN (r - thr σ.1 q u v k))) (lN_subN (by omega)) ?_
              refine am_lstore (q := 120) (L' := [some (.ref 191), some (.int (iZ (x1 : Int))), some (.int (iZ (y1 : Int))), some (.int (iZ (i1 : Int))), some (.int (iZ (p1 : Int))), some (.long (lN (r - thr σ.1 q u v k))), none, some (.int (iZ (u : Int))), some (.int (iZ (v : Int))), some (.int (iZ (k : Int))), some (.int (iZ (q : Int))), some (.long (lN (thr σ.1 q u v k))), none]) C dX11_way_118 rfl (by decide) rfl rfl ?_
              refine am_iincZ (q := 123) (L' := [some (.ref 191), some (.int (iZ (x1 : Int))), some (.int (iZ (y1 : Int))), some (.int (iZ (i1 : Int))), some (.int (iZ (p1 : Int))), some (.long (lN (r - thr σ.1 q u v k))), none, some (.int (iZ (u : Int))), some (.int (iZ (v : Int))), some (.int (iZ ((k + 1 : Nat) : Int))), some (.int (iZ (q : Int))), some (.long (lN (thr σ.1 q u v k))), none]) C dX11_way_120 rfl rfl (by omega) (by decide) rfl rfl ?_
              refine am_aload_n (q := 124) C dX11_way_123 rfl rfl ?_
              refine am_getR (q := 127) C fb_X11_25 dX11_way_124 rfl rfl kk_191 (show 191 < 215 by decide) kr_191_7 ?_
              refine am_iload (q := 129) C dX11_way_127 rfl rfl ?_
              refine am_laloadZ (q := 130) q C dX11_way_129 rfl kk_195 (show 195 < 215 by decide) rfl (by omega) (by decide) ?_
              refine am_longE (y := (lN (ps σ.1 q))) (by rw [hJ 195 (by decide)]; exact (hQ.2 q hq).2.2.2) ?_
              refine am_iload (q := 132) C dX11_way_130 rfl rfl ?_
              refine am_lshr (q := 133) C dX11_way_132 rfl ?_
              refine am_lconst (q := 134) (v := lN 1) C dX11_way_133 rfl rfl ?_
              refine am_land (q := 135) C dX11_way_134 rfl ?_
              refine am_longE (y := (lN (bitOf (ps σ.1 q) (k + 1)))) (bit_M (k := ((k + 1 : Nat) : Int)) (hK.2 q hq).2.2.2.2.2 (by omega)) ?_
              refine am_aload_n (q := 136) C dX11_way_135 rfl rfl ?_
              refine am_getR (q := 139) C fb_X11_62 dX11_way_136 rfl rfl kk_191 (show 191 < 215 by decide) kr_191_25 ?_
              refine am_iload (q := 141) C dX11_way_139 rfl rfl ?_
              refine am_iconst (q := 142) (v := iZ 1) C dX11_way_141 rfl rfl ?_
              refine am_iaddZ (q := 143) C dX11_way_142 rfl ?_
              refine am_intE (y := (iZ ((q + 1 : Nat) : Int))) (congrArg iZ (by omega)) ?_
              refine am_iload (q := 145) C dX11_way_143 rfl rfl ?_
              refine am_iload (q := 147) C dX11_way_145 rfl rfl ?_
              refine am_aload_n (q := 148) C dX11_way_147 rfl rfl ?_
              refine am_getR (q := 151) C fb_X11_15 dX11_way_148 rfl rfl kk_191 (show 191 < 215 by decide) kr_191_4 ?_
              refine am_iload (q := 153) C dX11_way_151 rfl rfl ?_
              refine am_ialoadZ (q := 154) q C dX11_way_153 rfl kk_192 (show 192 < 215 by decide) rfl (by omega) (by decide) ?_
              refine am_intE (y := (iZ (pa σ.1 q : Int))) (hQ.2 q hq).1 ?_
              refine am_imulZ (q := 155) C dX11_way_154 rfl ?_
              refine am_intE (y := (iZ (((k + 1) * pa σ.1 q : Nat) : Int))) (congrArg iZ (Int.natCast_mul _ _).symm) ?_
              refine am_isubZ (q := 156) C dX11_way_155 rfl ?_
              refine am_intE (y := (iZ ((u - (k + 1) * pa σ.1 q : Nat) : Int))) (congrArg iZ (by omega)) ?_
              refine am_iload (q := 158) C dX11_way_156 rfl rfl ?_
              refine am_iload (q := 160) C dX11_way_158 rfl rfl ?_
              refine am_aload_n (q := 161) C dX11_way_160 rfl rfl ?_
              refine am_getR (q := 164) C fb_X11_19 dX11_way_161 rfl rfl kk_191 (show 191 < 215 by decide) kr_191_5 ?_
              refine am_iload (q := 166) C dX11_way_164 rfl rfl ?_
              refine am_ialoadZ (q := 167) q C dX11_way_166 rfl kk_193 (show 193 < 215 by decide) rfl (by omega) (by decide) ?_
              refine am_intE (y := (iZ (pb σ.1 q : Int))) (hQ.2 q hq).2.1 ?_
              refine am_imulZ (q := 168) C dX11_way_167 rfl ?_
              refine am_intE (y := (iZ (((k + 1) * pb σ.1 q : Nat) : Int))) (congrArg iZ (Int.natCast_mul _ _).symm) ?_
              refine am_isubZ (q := 169) C dX11_way_168 rfl ?_
              refine am_intE (y := (iZ ((v - (k + 1) * pb σ.1 q : Nat) : Int))) (congrArg iZ (by omega)) ?_
              refine am_callS (q := 172) (As := [.int (iZ ((q + 1 : Nat) : Int)), .int (iZ ((u - (k + 1) * pa σ.1 q : Nat) : Int)), .int (iZ ((v - (k + 1) * pb σ.1 q : Nat) : Int))]) (rest := [.ref 207, .long (lN (bitOf (ps σ.1 q) (k + 1)))]) C mb_X11_place st_X11_place ml_X11_171 dX11_way_169 rfl (sp_X11_place _ _ _) rfl rfl ⟨by decide, by decide⟩ ⟨Nat.le_refl _, Nat.le_refl _⟩ (Nat.le_of_ble_eq_true rfl) (am_rie ?_)
              refine am_laloadZ (q := 173) (((q + 1) * 61 + (v - (k + 1) * pb σ.1 q)) * 61 + (u - (k + 1) * pa σ.1 q)) C dX11_way_172 rfl kk_207 (show 207 < 215 by decide) (by omega) (by have := Nat.sub_le u ((k + 1) * pa σ.1 q); have := Nat.sub_le v ((k + 1) * pb σ.1 q); omega) (by decide) ?_
              refine am_longE (y := (lN (Wy σ.1 (pm σ.1 - (q + 1)) (u - (k + 1) * pa σ.1 q) (v - (k + 1) * pb σ.1 q)))) (hT (q + 1) (u - (k + 1) * pa σ.1 q) (v - (k + 1) * pb σ.1 q) (by omega) (by omega) (by omega)) ?_
              refine am_lmul (q := 174) C dX11_way_173 rfl ?_
              refine am_longE (lN_mul _ _) ?_
              refine am_longE (y := (lN (thr σ.1 q u v (k + 1)))) (congrArg lN (thr_k σ.1 hin).symm) ?_
              refine am_lstore (q := 176) (L' := [some (.ref 191), some (.int (iZ (x1 : Int))), some (.int (iZ (y1 : Int))), some (.int (iZ (i1 : Int))), some (.int (iZ (p1 : Int))), some (.long (lN (r - thr σ.1 q u v k))), none, some (.int (iZ (u : Int))), some (.int (iZ (v : Int))), some (.int (iZ ((k + 1 : Nat) : Int))), some (.int (iZ (q : Int))), some (.long (lN (thr σ.1 q u v (k + 1)))), none]) C dX11_way_174 rfl (by decide) rfl rfl ?_
              refine am_goto (q := 105) C dX11_way_176 (by decide) ?_
              exact ih q u v (k + 1) n1 (r - thr σ.1 q u v k) r0 hq hu hv (by omega) (by omega) (by omega) htk (by omega) hk9
        have lo : ∀ (fuel : Nat) (q u v k r : Nat), (i1 < Wy σ.1 (pm σ.1) x1 y1) → (q ≤ p1 + 1) → (u ≤ x1) → (v ≤ y1) → (r < 2147483648) → (q ≤ p1 → r < Wy σ.1 (pm σ.1 - q) u v ∧ tak σ.1 p1 (p1 + 1 - q) q u v r = tak σ.1 p1 (p1 + 1) 0 x1 y1 i1) → (q = p1 + 1 → k = tak σ.1 p1 (p1 + 1) 0 x1 y1 i1) → (p1 + 1 - q) < fuel → am_A G mX11_way X (am_rm 3 0 0) 67 [some (.ref 191), some (.int (iZ (x1 : Int))), some (.int (iZ (y1 : Int))), some (.int (iZ (i1 : Int))), some (.int (iZ (p1 : Int))), some (.long (lN r)), none, some (.int (iZ (u : Int))), some (.int (iZ (v : Int))), some (.int (iZ (k : Int))), some (.int (iZ (q : Int))), none, none] [] (215, kK, kR, I, J1) 0 0 := by
          intro fuel
          induction fuel with
          | zero => intro q u v k r hiw hq1 hu hv hr9 hA9 hB hf; exact absurd hf (Nat.not_lt_zero _)
          | succ fuel ih =>
            intro q u v k r hiw hq1 hu hv hr9 hA9 hB hf
            refine am_iload (q := 69) C dX11_way_67 rfl rfl ?_
            refine am_iload (q := 71) C dX11_way_69 rfl rfl ?_
            refine am_icmpZ_gt (q := 74) (tgt := 215) C dX11_way_71 (by decide) rfl ⟨by omega, by omega⟩ ⟨by omega, by omega⟩ (fun g1 => ?_) (fun g1 => ?_)
            · refine am_iload (q := 217) C dX11_way_215 rfl rfl ?_
              refine am_iret C T dX11_way_217 rfl (Nat.le_refl _) (Nat.le_refl _) ⟨_, rfl, ?_⟩
              rw [if_pos (by omega), if_pos (by omega), ← hB (by omega)]
              exact ⟨rfl, _, _, rfl, hM.scr (atM_J207 (σ := σ) hJ), (atM_J207 (σ := σ) hJ).M⟩
            · obtain ⟨hr0, htt⟩ := hA9 (by omega)
              have hq : q < pm σ.1 := by omega
              refine am_iconst (q := 75) (v := iZ 0) C dX11_way_74 rfl rfl ?_
              refine am_istore (q := 77) (L' := [some (.ref 191), some (.int (iZ (x1 : Int))), some (.int (iZ (y1 : Int))), some (.int (iZ (i1 : Int))), some (.int (iZ (p1 : Int))), some (.long (lN r)), none, some (.int (iZ (u : Int))), some (.int (iZ (v : Int))), some (.int (iZ 0)), some (.int (iZ (q : Int))), none, none]) C dX11_way_75 rfl (by decide) rfl rfl ?_
              refine am_aload_n (q := 78) C dX11_way_77 rfl rfl ?_
              refine am_getR (q := 81) C fb_X11_25 dX11_way_78 rfl rfl kk_191 (show 191 < 215 by decide) kr_191_7 ?_
              refine am_iload (q := 83) C dX11_way_81 rfl rfl ?_
              refine am_laloadZ (q := 84) q C dX11_way_83 rfl kk_195 (show 195 < 215 by decide) rfl (by omega) (by decide) ?_
              refine am_longE (y := (lN (ps σ.1 q))) (by rw [hJ 195 (by decide)]; exact (hQ.2 q hq).2.2.2) ?_
              refine am_lconst (q := 85) (v := lN 1) C dX11_way_84 rfl rfl ?_
              refine am_land (q := 86) C dX11_way_85 rfl ?_
              refine am_longE (y := (lN (bitOf (ps σ.1 q) 0))) (bit_0 (hK.2 q hq).2.2.2.2.2) ?_
              refine am_aload_n (q := 87) C dX11_way_86 rfl rfl ?_
              refine am_getR (q := 90) C fb_X11_62 dX11_way_87 rfl rfl kk_191 (show 191 < 215 by decide) kr_191_25 ?_
              refine am_iload (q := 92) C dX11_way_90 rfl rfl ?_
              refine am_iconst (q := 93) (v := iZ 1) C dX11_way_92 rfl rfl ?_
              refine am_iaddZ (q := 94) C dX11_way_93 rfl ?_
              refine am_intE (y := (iZ ((q + 1 : Nat) : Int))) (congrArg iZ (by omega)) ?_
              refine am_iload (q := 96) C dX11_way_94 rfl rfl ?_
              refine am_iload (q := 98) C dX11_way_96 rfl rfl ?_
              refine am_callS (q := 101) (As := [.int (iZ ((q + 1 : Nat) : Int)), .int (iZ (u : Int)), .int (iZ (v : Int))]) (rest := [.ref 207, .long (lN (bitOf (ps σ.1 q) 0))]) C mb_X11_place st_X11_place ml_X11_171 dX11_way_98 rfl (sp_X11_place _ _ _) rfl rfl ⟨by decide, by decide⟩ ⟨Nat.le_refl _, Nat.le_refl _⟩ (Nat.le_of_ble_eq_true rfl) (am_rie ?_)
              refine am_laloadZ (q := 102) (((q + 1) * 61 + v) * 61 + u) C dX11_way_101 rfl kk_207 (show 207 < 215 by decide) (by omega) (by omega) (by decide) ?_
              refine am_longE (y := (lN (Wy σ.1 (pm σ.1 - (q + 1)) (u) (v)))) (hT (q + 1) u v (by omega) (by omega) (by omega)) ?_
              refine am_lmul (q := 103) C dX11_way_102 rfl ?_
              refine am_longE (lN_mul _ _) ?_
              refine am_longE (y := (lN (thr σ.1 q u v 0))) (congrArg lN (thr_0 σ.1 q u v).symm) ?_
              refine am_lstore (q := 105) (L' := [some (.ref 191), some (.int (iZ (x1 : Int))), some (.int (iZ (y1 : Int))), some (.int (iZ (i1 : Int))), some (.int (iZ (p1 : Int))), some (.long (lN r)), none, some (.int (iZ (u : Int))), some (.int (iZ (v : Int))), some (.int (iZ 0)), some (.int (iZ (q : Int))), some (.long (lN (thr σ.1 q u v 0))), none]) C dX11_way_103 rfl (by decide) rfl rfl ?_
              have hr1 := hr0
              rw [Wy_thr σ.1 hq] at hr1
              refine li 61 q u v 0 60 r r hq hu hv (by omega) (by omega) hr1 rfl (by omega) ?_
              obtain ⟨t1, t2, t3, t4⟩ := tak_next (t := σ.1) hq hr0 (k := (tkk (thr σ.1 q u v) 60 0 r).1) (r' := (tkk (thr σ.1 q u v) 60 0 r).2) rfl
              have t5 := (tkk_ok (thr σ.1 q u v) 60 0 r hr1).2.2.2
              rw [show p1 + 1 - q = (p1 - q) + 1 by omega, tak_1] at htt
              refine am_iload (q := 181) C dX11_way_179 rfl rfl ?_
              refine am_iload (q := 183) C dX11_way_181 rfl rfl ?_
              refine am_aload_n (q := 184) C dX11_way_183 rfl rfl ?_
              refine am_getR (q := 187) C fb_X11_15 dX11_way_184 rfl rfl kk_191 (show 191 < 215 by decide) kr_191_4 ?_
              refine am_iload (q := 189) C dX11_way_187 rfl rfl ?_
              refine am_ialoadZ (q := 190) q C dX11_way_189 rfl kk_192 (show 192 < 215 by decide) rfl (by omega) (by decide) ?_
              refine am_intE (y := (iZ (pa σ.1 q : Int))) (hQ.2 q hq).1 ?_
              refine am_imulZ (q := 191) C dX11_way_190 rfl ?_
              refine am_intE (y := (iZ (((tkk (thr σ.1 q u v) 60 0 r).1 * pa σ.1 q : Nat) : Int))) (congrArg iZ (Int.natCast_mul _ _).symm) ?_
              refine am_isubZ (q := 192) C dX11_way_191 rfl ?_
              refine am_intE (y := (iZ ((u - (tkk (thr σ.1 q u v) 60 0 r).1 * pa σ.1 q : Nat) : Int))) (congrArg iZ (by omega)) ?_
              refine am_istore (q := 194) (L' := [some (.ref 191), some (.int (iZ (x1 : Int))), some (.int (iZ (y1 : Int))), some (.int (iZ (i1 : Int))), some (.int (iZ (p1 : Int))), some (.long (lN ((tkk (thr σ.1 q u v) 60 0 r).2))), none, some (.int (iZ ((u - (tkk (thr σ.1 q u v) 60 0 r).1 * pa σ.1 q : Nat) : Int))), some (.int (iZ (v : Int))), some (.int (iZ ((tkk (thr σ.1 q u v) 60 0 r).1 : Int))), some (.int (iZ (q : Int))), none, none]) C dX11_way_192 rfl (by decide) rfl rfl ?_
              refine am_iload (q := 196) C dX11_way_194 rfl rfl ?_
              refine am_iload (q := 198) C dX11_way_196 rfl rfl ?_
              refine am_aload_n (q := 199) C dX11_way_198 rfl rfl ?_
              refine am_getR (q := 202) C fb_X11_19 dX11_way_199 rfl rfl kk_191 (show 191 < 215 by decide) kr_191_5 ?_
              refine am_iload (q := 204) C dX11_way_202 rfl rfl ?_
              refine am_ialoadZ (q := 205) q C dX11_way_204 rfl kk_193 (show 193 < 215 by decide) rfl (by omega) (by decide) ?_
              refine am_intE (y := (iZ (pb σ.1 q : Int))) (hQ.2 q hq).2.1 ?_
              refine am_imulZ (q := 206) C dX11_way_205 rfl ?_
              refine am_intE (y := (iZ (((tkk (thr σ.1 q u v) 60 0 r).1 * pb σ.1 q : Nat) : Int))) (congrArg iZ (Int.natCast_mul _ _).symm) ?_
              refine am_isubZ (q := 207) C dX11_way_206 rfl ?_
              refine am_intE (y := (iZ ((v - (tkk (thr σ.1 q u v) 60 0 r).1 * pb σ.1 q : Nat) : Int))) (congrArg iZ (by omega)) ?_
              refine am_istore (q := 209) (L' := [some (.ref 191), some (.int (iZ (x1 : Int))), some (.int (iZ (y1 : Int))), some (.int (iZ (i1 : Int))), some (.int (iZ (p1 : Int))), some (.long (lN ((tkk (thr σ.1 q u v) 60 0 r).2))), none, some (.int (iZ ((u - (tkk (thr σ.1 q u v) 60 0 r).1 * pa σ.1 q : Nat) : Int))), some (.int (iZ ((v - (tkk (thr σ.1 q u v) 60 0 r).1 * pb σ.1 q : Nat) : Int))), some (.int (iZ ((tkk (thr σ.1 q u v) 60 0 r).1 : Int))), some (.int (iZ (q : Int))), none, none]) C dX11_way_207 rfl (by decide) rfl rfl ?_
              refine am_iincZ (q := 212) (L' := [some (.ref 191), some (.int (iZ (x1 : Int))), some (.int (iZ (y1 : Int))), some (.int (iZ (i1 : Int))), some (.int (iZ (p1 : Int))), some (.long (lN ((tkk (thr σ.1 q u v) 60 0 r).2))), none, some (.int (iZ ((u - (tkk (thr σ.1 q u v) 60 0 r).1 * pa σ.1 q : Nat) : Int))), some (.int (iZ ((v - (tkk (thr σ.1 q u v) 60 0 r).1 * pb σ.1 q : Nat) : Int))), some (.int (iZ ((tkk (thr σ.1 q u v) 60 0 r).1 : Int))), some (.int (iZ ((q + 1 : Nat) : Int))), none, none]) C dX11_way_209 rfl rfl (by omega) (by decide) rfl rfl ?_
              refine am_goto (q := 67) C dX11_way_212 (by decide) ?_
              refine ih (q + 1) _ _ _ _ hiw (by omega) (by omega) (by omega) (by omega) (fun h => ?_) (fun h => ?_) (by omega)
              · rw [if_neg (by omega)] at htt
                exact ⟨t4, by rw [show p1 + 1 - (q + 1) = p1 - q by omega]; exact htt⟩
              · rw [if_pos (by omega)] at htt
                exact htt
        refine am_aload_n (q := 32) C dX11_way_31 rfl rfl ?_
        refine am_getR (q := 35) C fb_X11_62 dX11_way_32 rfl rfl kk_191 (show 191 < 215 by decide) kr_191_25 ?_
        refine am_iconst (q := 36) (v := iZ 0) C dX11_way_35 rfl rfl ?_
        refine am_iload_n (q := 37) C dX11_way_36 rfl rfl ?_
        refine am_iload_n (q := 38) C dX11_way_37 rfl rfl ?_
        refine am_callS (q := 41) (As := [.int (iZ 0), .int (iZ (x1 : Int)), .int (iZ (y1 : Int))]) (rest := [.ref 207]) C mb_X11_place st_X11_place ml_X11_171 dX11_way_38 rfl (sp_X11_place _ _ _) rfl rfl ⟨by decide, by decide⟩ ⟨Nat.le_refl _, Nat.le_refl _⟩ (Nat.le_of_ble_eq_true rfl) (am_rie ?_)
        refine am_laloadZ (q := 42) ((0 * 61 + y1) * 61 + x1) C dX11_way_41 rfl kk_207 (show 207 < 215 by decide) (by omega) (by omega) (by decide) ?_
        refine am_longE (y := (lN (Wy σ.1 (pm σ.1) x1 y1))) (hT 0 x1 y1 (by omega) (by omega) (by omega)) ?_
        refine am_iload_n (q := 43) C dX11_way_42 rfl rfl ?_
        refine am_i2lZ (q := 44) C dX11_way_43 rfl ⟨by omega, by omega⟩ ?_
        refine am_longE (y := (lN i1)) rfl ?_
        refine am_lcmp (q := 45) C dX11_way_44 rfl ?_
        refine am_if_gt (q := 48) (tgt := 51) C dX11_way_45 (by decide) rfl (fun h1 => ?_) (fun h1 => ?_)
        · have h1 := ((lg_cmp_gt _ _).trans (pk_lLT (by omega) (by have := Wy_le σ.1 (q := pm σ.1) hm x1 y1; omega))).mp h1
          refine am_iload_n (q := 52) C dX11_way_51 rfl rfl ?_
          refine am_i2lZ (q := 53) C dX11_way_52 rfl ⟨by omega, by omega⟩ ?_
          refine am_longE (y := (lN i1)) rfl ?_
          refine am_lstore (q := 55) (L' := [some (.ref 191), some (.int (iZ (x1 : Int))), some (.int (iZ (y1 : Int))), some (.int (iZ (i1 : Int))), some (.int (iZ (p1 : Int))), some (.long (lN i1)), none, none, none, none, none, none, none]) C dX11_way_53 rfl (by decide) rfl rfl ?_
          refine am_iload_n (q := 56) C dX11_way_55 rfl rfl ?_
          refine am_istore (q := 58) (L' := [some (.ref 191), some (.int (iZ (x1 : Int))), some (.int (iZ (y1 : Int))), some (.int (iZ (i1 : Int))), some (.int (iZ (p1 : Int))), some (.long (lN i1)), none, some (.int (iZ (x1 : Int))), none, none, none, none, none]) C dX11_way_56 rfl (by decide) rfl rfl ?_
          refine am_iload_n (q := 59) C dX11_way_58 rfl rfl ?_
          refine am_istore (q := 61) (L' := [some (.ref 191), some (.int (iZ (x1 : Int))), some (.int (iZ (y1 : Int))), some (.int (iZ (i1 : Int))), some (.int (iZ (p1 : Int))), some (.long (lN i1)), none, some (.int (iZ (x1 : Int))), some (.int (iZ (y1 : Int))), none, none, none, none]) C dX11_way_59 rfl (by decide) rfl rfl ?_
          refine am_iconst (q := 62) (v := iZ 0) C dX11_way_61 rfl rfl ?_
          refine am_istore (q := 64) (L' := [some (.ref 191), some (.int (iZ (x1 : Int))), some (.int (iZ (y1 : Int))), some (.int (iZ (i1 : Int))), some (.int (iZ (p1 : Int))), some (.long (lN i1)), none, some (.int (iZ (x1 : Int))), some (.int (iZ (y1 : Int))), some (.int (iZ 0)), none, none, none]) C dX11_way_62 rfl (by decide) rfl rfl ?_
          refine am_iconst (q := 65) (v := iZ 0) C dX11_way_64 rfl rfl ?_
          refine am_istore (q := 67) (L' := [some (.ref 191), some (.int (iZ (x1 : Int))), some (.int (iZ (y1 : Int))), some (.int (iZ (i1 : Int))), some (.int (iZ (p1 : Int))), some (.long (lN i1)), none, some (.int (iZ (x1 : Int))), some (.int (iZ (y1 : Int))), some (.int (iZ 0)), some (.int (iZ 0)), none, none]) C dX11_way_65 rfl (by decide) rfl rfl ?_
          refine lo (p1 + 2) 0 x1 y1 0 i1 (by omega) (by omega) (by omega) (by omega) (by omega) (fun _ => ⟨?_, rfl⟩) (fun h => absurd h (by omega)) (by omega)
          rw [Nat.sub_zero]; omega
        · have h1 : ¬ (_) := fun z => h1 (((lg_cmp_gt _ _).trans (pk_lLT (by omega) (by have := Wy_le σ.1 (q := pm σ.1) hm x1 y1; omega))).mpr z)
          refine am_bipush (q := 50) (v := iZ (-3)) C dX11_way_48 rfl rfl ?_
          refine am_iret C T dX11_way_50 rfl (Nat.le_refl _) (Nat.le_refl _) ⟨_, rfl, ?_⟩
          rw [if_pos (by omega), if_neg (by omega)]
          exact ⟨rfl, _, _, rfl, hM.scr (atM_J207 (σ := σ) hJ), (atM_J207 (σ := σ) hJ).M⟩
      · refine am_iconst (q := 24) (v := iZ (-1)) C dX11_way_23 rfl rfl ?_
        refine am_iret C T dX11_way_24 rfl (Nat.le_refl _) (Nat.le_refl _) ⟨_, rfl, ?_⟩
        rw [if_neg (by omega)]
        exact ⟨rfl, _, _, rfl, hM, frM_refl⟩
