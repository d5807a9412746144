variable {G : am_G} {I : Nat → Nat → Int32} {J : Nat → Nat → Int64}
def knW (I : Nat → Nat → Int32) (kx ky : Int) : Prop := I 176 1 = iZ kx ∧ I 176 2 = iZ ky ∧ -1 ≤ kx ∧ kx ≤ 60 ∧ -1 ≤ ky ∧ ky ≤ 60
theorem knW.on {I I' : Nat → Nat → Int32} {kx ky : Int} (h : knW I kx ky) (hI : I' 176 = I 176) : knW I' kx ky := by unfold knW; rw [hI]; exact h
/-- the layers from l0 on are laid -/
def tabW (J : Nat → Nat → Int64) (kx ky : Int) (t : PT) (l0 : Nat) : Prop := ∀ l x y : Nat, l0 ≤ l → l ≤ pm t → (x : Int) ≤ kx → (y : Int) ≤ ky → J 177 ((l * 61 + x) * 61 + y) = lN (Wy t (pm t - l) x y)
def waysOK (I : Nat → Nat → Int32) (J : Nat → Nat → Int64) (t : PT) : Prop := ∃ kx ky : Int, knW I kx ky ∧ tabW J kx ky t 0
theorem waysOK.on {I I' : Nat → Nat → Int32} {J J' : Nat → Nat → Int64} {t : PT} (h : waysOK I J t) (hI : I' 176 = I 176) (hJ : J' 177 = J 177) : waysOK I' J' t := by
  obtain ⟨kx, ky, h1, h2⟩ := h
  exact ⟨kx, ky, h1.on hI, fun l x y h3 h4 hx hy => by rw [hJ]; exact h2 l x y h3 h4 hx hy⟩
theorem alw_ite {t : PT} {l k : Nat} (h : l < pm t) : (if alw t (l : Int) (k : Int) then (1 : Int32) else 0) = if bitOf (ps t l) k = 1 then 1 else 0 := by
  by_cases e : bitOf (ps t l) k = 1
  · rw [if_pos e, if_pos ⟨by omega, by omega, e⟩]
  · rw [if_neg e, if_neg (fun z => e z.2.2)]
theorem anyS_lN : (2305843009213693951 : Nat) = anyS := rfl
set_option maxRecDepth 4000 in
theorem sp_X9_at {kx ky : Int} (hW : knW I kx ky) {l x y : Int} (hl : rg l) (hx : rg x) (hy : rg y) : am_S G mX9_at 1 0 0 [.ref 176, .int (iZ l), .int (iZ x), .int (iZ y)] (215, kK, kR, I, J) (am_fl (if 0 ≤ l ∧ l < 7 ∧ 0 ≤ x ∧ x ≤ kx ∧ 0 ≤ y ∧ y ≤ ky then J 177 ((l.toNat * 61 + x.toNat) * 61 + y.toNat) else 0) (215, kK, kR, I, J)) := by
  obtain ⟨k1, k2, k3, k4, k5, k6⟩ := hW
  refine am_spec (plainFor_of_name (by decide +kernel)) (Nat.le_of_ble_eq_true rfl) (L := [some (.ref 176), some (.int (iZ l)), some (.int (iZ x)), some (.int (iZ y)), none]) rfl (fun X C T => ?_)
  refine am_iload_n (q := 1) C dX9_at_0 rfl rfl ?_
  refine am_ifZ_lt (q := 4) (tgt := 50) C dX9_at_1 (by decide) rfl hl (fun h1 => ?_) (fun h1 => ?_)
  · refine am_iconst (q := 51) (v := iZ 0) C dX9_at_50 rfl rfl ?_
    refine am_istore (q := 53) (L' := [some (.ref 176), some (.int (iZ l)), some (.int (iZ x)), some (.int (iZ y)), some (.int (iZ 0))]) C dX9_at_51 rfl (by decide) rfl rfl ?_
    refine am_iload (q := 55) C dX9_at_53 rfl rfl ?_
    refine am_ifZ_eq (q := 58) (tgt := 77) C dX9_at_55 (by decide) rfl ⟨by omega, by omega⟩ (fun h2 => ?_) (fun h2 => ?_)
    · refine am_lconst (q := 78) (v := lN 0) C dX9_at_77 rfl rfl ?_
      refine am_lret C T dX9_at_78 rfl (Nat.le_refl _) (Nat.le_refl _) ⟨_, rfl, ?_⟩
      refine ⟨?_, rfl⟩
      rw [if_neg (by omega)]; rfl
    · exact absurd h2 (by decide)
  · refine am_iload_n (q := 5) C dX9_at_4 rfl rfl ?_
    refine am_bipush (q := 7) (v := iZ 7) C dX9_at_5 rfl rfl ?_
    refine am_icmpZ_ge (q := 10) (tgt := 50) C dX9_at_7 (by decide) rfl hl ⟨by omega, by omega⟩ (fun h3 => ?_) (fun h3 => ?_)
    · refine am_iconst (q := 51) (v := iZ 0) C dX9_at_50 rfl rfl ?_
      refine am_istore (q := 53) (L' := [some (.ref 176), some (.int (iZ l)), some (.int (iZ x)), some (.int (iZ y)), some (.int (iZ 0))]) C dX9_at_51 rfl (by decide) rfl rfl ?_
      refine am_iload (q := 55) C dX9_at_53 rfl rfl ?_
      refine am_ifZ_eq (q := 58) (tgt := 77) C dX9_at_55 (by decide) rfl ⟨by omega, by omega⟩ (fun h4 => ?_) (fun h4 => ?_)
      · refine am_lconst (q := 78) (v := lN 0) C dX9_at_77 rfl rfl ?_
        refine am_lret C T dX9_at_78 rfl (Nat.le_refl _) (Nat.le_refl _) ⟨_, rfl, ?_⟩
        refine ⟨?_, rfl⟩
        rw [if_neg (by omega)]; rfl
      · exact absurd h4 (by decide)
    · refine am_iload_n (q := 11) C dX9_at_10 rfl rfl ?_
      refine am_ifZ_lt (q := 14) (tgt := 50) C dX9_at_11 (by decide) rfl hx (fun h5 => ?_) (fun h5 => ?_)
      · refine am_iconst (q := 51) (v := iZ 0) C dX9_at_50 rfl rfl ?_
        refine am_istore (q := 53) (L' := [some (.ref 176), some (.int (iZ l)), some (.int (iZ x)), some (.int (iZ y)), some (.int (iZ 0))]) C dX9_at_51 rfl (by decide) rfl rfl ?_
        refine am_iload (q := 55) C dX9_at_53 rfl rfl ?_
        refine am_ifZ_eq (q := 58) (tgt := 77) C dX9_at_55 (by decide) rfl ⟨by omega, by omega⟩ (fun h6 => ?_) (fun h6 => ?_)
        · refine am_lconst (q := 78) (v := lN 0) C dX9_at_77 rfl rfl ?_
          refine am_lret C T dX9_at_78 rfl (Nat.le_refl _) (Nat.le_refl _) ⟨_, rfl, ?_⟩
          refine ⟨?_, rfl⟩
          rw [if_neg (by omega)]; rfl
        · exact absurd h6 (by decide)
      · refine am_iload_n (q := 15) C dX9_at_14 rfl rfl ?_
        refine am_aload_n (q := 16) C dX9_at_15 rfl rfl ?_
        refine am_getIe (q := 19) (v := (iZ kx)) C fb_X9_15 dX9_at_16 rfl rfl kk_176 (show 176 < 215 by decide) k1 ?_
        refine am_icmpZ_gt (q := 22) (tgt := 50) C dX9_at_19 (by decide) rfl hx ⟨by omega, by omega⟩ (fun h7 => ?_) (fun h7 => ?_)
        · refine am_iconst (q := 51) (v := iZ 0) C dX9_at_50 rfl rfl ?_
          refine am_istore (q := 53) (L' := [some (.ref 176), some (.int (iZ l)), some (.int (iZ x)), some (.int (iZ y)), some (.int (iZ 0))]) C dX9_at_51 rfl (by decide) rfl rfl ?_
          refine am_iload (q := 55) C dX9_at_53 rfl rfl ?_
          refine am_ifZ_eq (q := 58) (tgt := 77) C dX9_at_55 (by decide) rfl ⟨by omega, by omega⟩ (fun h8 => ?_) (fun h8 => ?_)
          · refine am_lconst (q := 78) (v := lN 0) C dX9_at_77 rfl rfl ?_
            refine am_lret C T dX9_at_78 rfl (Nat.le_refl _) (Nat.le_refl _) ⟨_, rfl, ?_⟩
            refine ⟨?_, rfl⟩
            rw [if_neg (by omega)]; rfl
          · exact absurd h8 (by decide)
        · refine am_iload_n (q := 23) C dX9_at_22 rfl rfl ?_
          refine am_bipush (q := 25) (v := iZ 61) C dX9_at_23 rfl rfl ?_
          refine am_icmpZ_ge (q := 28) (tgt := 50) C dX9_at_25 (by decide) rfl hx ⟨by omega, by omega⟩ (fun h9 => ?_) (fun h9 => ?_)
          · refine am_iconst (q := 51) (v := iZ 0) C dX9_at_50 rfl rfl ?_
            refine am_istore (q := 53) (L' := [some (.ref 176), some (.int (iZ l)), some (.int (iZ x)), some (.int (iZ y)), some (.int (iZ 0))]) C dX9_at_51 rfl (by decide) rfl rfl ?_
            refine am_iload (q := 55) C dX9_at_53 rfl rfl ?_
            refine am_ifZ_eq (q := 58) (tgt := 77) C dX9_at_55 (by decide) rfl ⟨by omega, by omega⟩ (fun h10 => ?_) (fun h10 => ?_)
            · refine am_lconst (q := 78) (v := lN 0) C dX9_at_77 rfl rfl ?_
              refine am_lret C T dX9_at_78 rfl (Nat.le_refl _) (Nat.le_refl _) ⟨_, rfl, ?_⟩
              refine ⟨?_, rfl⟩
              rw [if_neg (by omega)]; rfl
            · exact absurd h10 (by decide)
          · refine am_iload_n (q := 29) C dX9_at_28 rfl rfl ?_
            refine am_ifZ_lt (q := 32) (tgt := 50) C dX9_at_29 (by decide) rfl hy (fun h11 => ?_) (fun h11 => ?_)
            · refine am_iconst (q := 51) (v := iZ 0) C dX9_at_50 rfl rfl ?_
              refine am_istore (q := 53) (L' := [some (.ref 176), some (.int (iZ l)), some (.int (iZ x)), some (.int (iZ y)), some (.int (iZ 0))]) C dX9_at_51 rfl (by decide) rfl rfl ?_
              refine am_iload (q := 55) C dX9_at_53 rfl rfl ?_
              refine am_ifZ_eq (q := 58) (tgt := 77) C dX9_at_55 (by decide) rfl ⟨by omega, by omega⟩ (fun h12 => ?_) (fun h12 => ?_)
              · refine am_lconst (q := 78) (v := lN 0) C dX9_at_77 rfl rfl ?_
                refine am_lret C T dX9_at_78 rfl (Nat.le_refl _) (Nat.le_refl _) ⟨_, rfl, ?_⟩
                refine ⟨?_, rfl⟩
                rw [if_neg (by omega)]; rfl
              · exact absurd h12 (by decide)
            · refine am_iload_n (q := 33) C dX9_at_32 rfl rfl ?_
              refine am_aload_n (q := 34) C dX9_at_33 rfl rfl ?_
              refine am_getIe (q := 37) (v := (iZ ky)) C fb_X9_19 dX9_at_34 rfl rfl kk_176 (show 176 < 215 by decide) k2 ?_
              refine am_icmpZ_gt (q := 40) (tgt := 50) C dX9_at_37 (by decide) rfl hy ⟨by omega, by omega⟩ (fun h13 => ?_) (fun h13 => ?_)
              · refine am_iconst (q := 51) (v := iZ 0) C dX9_at_50 rfl rfl ?_
                refine am_istore (q := 53) (L' := [some (.ref 176), some (.int (iZ l)), some (.int (iZ x)), some (.int (iZ y)), some (.int (iZ 0))]) C dX9_at_51 rfl (by decide) rfl rfl ?_
                refine am_iload (q := 55) C dX9_at_53 rfl rfl ?_
                refine am_ifZ_eq (q := 58) (tgt := 77) C dX9_at_55 (by decide) rfl ⟨by omega, by omega⟩ (fun h14 => ?_) (fun h14 => ?_)
                · refine am_lconst (q := 78) (v := lN 0) C dX9_at_77 rfl rfl ?_
                  refine am_lret C T dX9_at_78 rfl (Nat.le_refl _) (Nat.le_refl _) ⟨_, rfl, ?_⟩
                  refine ⟨?_, rfl⟩
                  rw [if_neg (by omega)]; rfl
                · exact absurd h14 (by decide)
              · refine am_iload_n (q := 41) C dX9_at_40 rfl rfl ?_
                refine am_bipush (q := 43) (v := iZ 61) C dX9_at_41 rfl rfl ?_
                refine am_icmpZ_ge (q := 46) (tgt := 50) C dX9_at_43 (by decide) rfl hy ⟨by omega, by omega⟩ (fun h15 => ?_) (fun h15 => ?_)
                · refine am_iconst (q := 51) (v := iZ 0) C dX9_at_50 rfl rfl ?_
                  refine am_istore (q := 53) (L' := [some (.ref 176), some (.int (iZ l)), some (.int (iZ x)), some (.int (iZ y)), some (.int (iZ 0))]) C dX9_at_51 rfl (by decide) rfl rfl ?_
                  refine am_iload (q := 55) C dX9_at_53 rfl rfl ?_
                  refine am_ifZ_eq (q := 58) (tgt := 77) C dX9_at_55 (by decide) rfl ⟨by omega, by omega⟩ (fun h16 => ?_) (fun h16 => ?_)
                  · refine am_lconst (q := 78) (v := lN 0) C dX9_at_77 rfl rfl ?_
                    refine am_lret C T dX9_at_78 rfl (Nat.le_refl _) (Nat.le_refl _) ⟨_, rfl, ?_⟩
                    refine ⟨?_, rfl⟩
                    rw [if_neg (by omega)]; rfl
                  · exact absurd h16 (by decide)
                · refine am_iconst (q := 47) (v := iZ 1) C dX9_at_46 rfl rfl ?_
                  refine am_goto (q := 51) C dX9_at_47 (by decide) ?_
                  refine am_istore (q := 53) (L' := [some (.ref 176), some (.int (iZ l)), some (.int (iZ x)), some (.int (iZ y)), some (.int (iZ 1))]) C dX9_at_51 rfl (by decide) rfl rfl ?_
                  refine am_iload (q := 55) C dX9_at_53 rfl rfl ?_
                  refine am_ifZ_eq (q := 58) (tgt := 77) C dX9_at_55 (by decide) rfl ⟨by omega, by omega⟩ (fun h17 => ?_) (fun h17 => ?_)
                  · exact absurd h17 (by decide)
                  · refine am_aload_n (q := 59) C dX9_at_58 rfl rfl ?_
                    refine am_getR (q := 62) C fb_X9_11 dX9_at_59 rfl rfl kk_176 (show 176 < 215 by decide) kr_176_0 ?_
                    refine am_iload_n (q := 63) C dX9_at_62 rfl rfl ?_
                    refine am_bipush (q := 65) (v := iZ 61) C dX9_at_63 rfl rfl ?_
                    refine am_imulZ (q := 66) C dX9_at_65 rfl ?_
                    refine am_iload_n (q := 67) C dX9_at_66 rfl rfl ?_
                    refine am_iaddZ (q := 68) C dX9_at_67 rfl ?_
                    refine am_bipush (q := 70) (v := iZ 61) C dX9_at_68 rfl rfl ?_
                    refine am_imulZ (q := 71) C dX9_at_70 rfl ?_
                    refine am_iload_n (q := 72) C dX9_at_71 rfl rfl ?_
                    refine am_iaddZ (q := 73) C dX9_at_72 rfl ?_
                    refine am_laloadZ (q := 74) ((l.toNat * 61 + x.toNat) * 61 + y.toNat) C dX9_at_73 rfl kk_177 (show 177 < 215 by decide) (by omega) (by omega) (by decide) ?_
                    refine am_goto (q := 78) C dX9_at_74 (by decide) ?_
                    refine am_lret C T dX9_at_78 rfl (Nat.le_refl _) (Nat.le_refl _) ⟨_, rfl, ?_⟩
                    refine ⟨?_, rfl⟩
                    rw [if_pos (by omega)]
set_option maxRecDepth 4000 in
theorem sp_X9_set {l x y : Nat} (hl : l < 7) (hx : x ≤ 60) (hy : y ≤ 60) {v : Int64} : am_S G mX9_set 1 0 0 [.ref 176, .int (iZ (l : Int)), .int (iZ (x : Int)), .int (iZ (y : Int)), .long v] (215, kK, kR, I, J) (am_fv (215, kK, kR, I, (am_up J 177 ((l * 61 + x) * 61 + y) v))) := by
  refine am_spec (plainFor_of_name (by decide +kernel)) (Nat.le_of_ble_eq_true rfl) (L := [some (.ref 176), some (.int (iZ (l : Int))), some (.int (iZ (x : Int))), some (.int (iZ (y : Int))), some (.long v), none]) rfl (fun X C T => ?_)
  refine am_iload_n (q := 1) C dX9_set_0 rfl rfl ?_
  refine am_ifZ_lt (q := 4) (tgt := 48) C dX9_set_1 (by decide) rfl ⟨by omega, by omega⟩ (fun h1 => ?_) (fun h1 => ?_)
  · refine am_vret C T dX9_set_48 rfl (Nat.le_refl _) (Nat.le_refl _) ⟨rfl, ?_⟩
    exfalso; omega
  · refine am_iload_n (q := 5) C dX9_set_4 rfl rfl ?_
    refine am_bipush (q := 7) (v := iZ 7) C dX9_set_5 rfl rfl ?_
    refine am_icmpZ_ge (q := 10) (tgt := 48) C dX9_set_7 (by decide) rfl ⟨by omega, by omega⟩ ⟨by omega, by omega⟩ (fun h2 => ?_) (fun h2 => ?_)
    · refine am_vret C T dX9_set_48 rfl (Nat.le_refl _) (Nat.le_refl _) ⟨rfl, ?_⟩
      exfalso; omega
    · refine am_iload_n (q := 11) C dX9_set_10 rfl rfl ?_
      refine am_ifZ_lt (q := 14) (tgt := 48) C dX9_set_11 (by decide) rfl ⟨by omega, by omega⟩ (fun h3 => ?_) (fun h3 => ?_)
      · refine am_vret C T dX9_set_48 rfl (Nat.le_refl _) (Nat.le_refl _) ⟨rfl, ?_⟩
        exfalso; omega
      · refine am_iload_n (q := 15) C dX9_set_14 rfl rfl ?_
        refine am_bipush (q := 17) (v := iZ 61) C dX9_set_15 rfl rfl ?_
        refine am_icmpZ_ge (q := 20) (tgt := 48) C dX9_set_17 (by decide) rfl ⟨by omega, by omega⟩ ⟨by omega, by omega⟩ (fun h4 => ?_) (fun h4 => ?_)
        · refine am_vret C T dX9_set_48 rfl (Nat.le_refl _) (Nat.le_refl _) ⟨rfl, ?_⟩
          exfalso; omega
        · refine am_iload_n (q := 21) C dX9_set_20 rfl rfl ?_
          refine am_ifZ_lt (q := 24) (tgt := 48) C dX9_set_21 (by decide) rfl ⟨by omega, by omega⟩ (fun h5 => ?_) (fun h5 => ?_)
          · refine am_vret C T dX9_set_48 rfl (Nat.le_refl _) (Nat.le_refl _) ⟨rfl, ?_⟩
            exfalso; omega
          · refine am_iload_n (q := 25) C dX9_set_24 rfl rfl ?_
            refine am_bipush (q := 27) (v := iZ 61) C dX9_set_25 rfl rfl ?_
            refine am_icmpZ_ge (q := 30) (tgt := 48) C dX9_set_27 (by decide) rfl ⟨by omega, by omega⟩ ⟨by omega, by omega⟩ (fun h6 => ?_) (fun h6 => ?_)
            · refine am_vret C T dX9_set_48 rfl (Nat.le_refl _) (Nat.le_refl _) ⟨rfl, ?_⟩
              exfalso; omega
            · refine am_aload_n (q := 31) C dX9_set_30 rfl rfl ?_
              refine am_getR (q := 34) C fb_X9_11 dX9_set_31 rfl rfl kk_176 (show 176 < 215 by decide) kr_176_0 ?_
              refine am_iload_n (q := 35) C dX9_set_34 rfl rfl ?_
              refine am_bipush (q := 37) (v := iZ 61) C dX9_set_35 rfl rfl ?_
              refine am_imulZ (q := 38) C dX9_set_37 rfl ?_
              refine am_iload_n (q := 39) C dX9_set_38 rfl rfl ?_
              refine am_iaddZ (q := 40) C dX9_set_39 rfl ?_
              refine am_bipush (q := 42) (v := iZ 61) C dX9_set_40 rfl rfl ?_
              refine am_imulZ (q := 43) C dX9_set_42 rfl ?_
              refine am_iload_n (q := 44) C dX9_set_43 rfl rfl ?_
              refine am_iaddZ (q := 45) C dX9_set_44 rfl ?_
              refine am_lload (q := 47) C dX9_set_45 rfl rfl ?_
              refine am_lastoreZ (q := 48) ((l * 61 + x) * 61 + y) C dX9_set_47 rfl kk_177 (show 177 < 215 by decide) (by omega) (by omega) (by decide) ?_
              refine am_vret C T dX9_set_48 rfl (Nat.le_refl _) (Nat.le_refl _) ⟨rfl, ?_⟩
              rfl
theorem wsm_next {f : Nat → Nat → Nat} {σ a b n k : Nat} (hn : k + n = 61) {u v : Int} (hu : 0 ≤ u) (hv : 0 ≤ v ∧ k ≤ 60) {s z r : Nat} (hz : z = bitOf σ k * f u.toNat v.toNat) (h : s + (if 0 ≤ u ∧ 0 ≤ v then wsm f σ a b n k u.toNat v.toNat else 0) = r) : ∃ n', k + 1 + n' = 61 ∧ s + z + (if 0 ≤ u - a ∧ 0 ≤ v - b then wsm f σ a b n' (k + 1) (u - a).toNat (v - b).toNat else 0) = r := by
  obtain ⟨n', rfl⟩ : ∃ n', n = n' + 1 := ⟨n - 1, by omega⟩
  refine ⟨n', by omega, ?_⟩
  rw [if_pos ⟨hu, hv.1⟩] at h
  rw [← h, hz]
  show _ = s + (_ + if _ then _ else 0)
  by_cases e : 0 ≤ u - a ∧ 0 ≤ v - b
  · rw [if_pos e, if_pos (by omega), show (u - a).toNat = u.toNat - a by omega, show (v - b).toNat = v.toNat - b by omega, Nat.add_assoc]
  · rw [if_neg e, if_neg (by omega), Nat.add_assoc]
theorem wsm_done {f : Nat → Nat → Nat} {σ a b n k : Nat} {u v : Int} {s r : Nat} (h0 : u < 0 ∨ v < 0 ∨ n = 0) (h : s + (if 0 ≤ u ∧ 0 ≤ v then wsm f σ a b n k u.toNat v.toNat else 0) = r) : s = r := by
  rw [← h]
  by_cases e : 0 ≤ u ∧ 0 ≤ v
  · rw [if_pos e, show n = 0 by omega]; rfl
  · rw [if_neg e]; rfl
set_option maxRecDepth 4000 in
theorem sp_X9_counted {kx ky : Int} (hW : knW I kx ky) {t : PT} (hA : atP 1 I J t) (hK : okP t) {l x y : Nat} (hl : l ≤ pm t) (hx : (x : Int) ≤ kx) (hy : (y : Int) ≤ ky) (hN : ∀ x1 y1 : Nat, (x1 : Int) ≤ kx → (y1 : Int) ≤ ky → l < pm t → J 177 (((l + 1) * 61 + x1) * 61 + y1) = lN (Wy t (pm t - (l + 1)) x1 y1)) (hS : l < pm t → pa t l ≤ x → pb t l ≤ y → J 177 ((l * 61 + (x - pa t l)) * 61 + (y - pb t l)) = lN (Wy t (pm t - l) (x - pa t l) (y - pb t l))) : am_S G mX9_counted 4 0 0 [.ref 176, .int (iZ (l : Int)), .int (iZ (x : Int)), .int (iZ (y : Int)), .ref 1] (215, kK, kR, I, J) (am_fl (lN (Wy t (pm t - l) x y)) (215, kK, kR, I, J)) := by
  have hW9 := hW
  have hm := hK.1
  have h44 : l < pm t → pa t l ≤ 4 ∧ pb t l ≤ 4 ∧ 1 ≤ pa t l + pb t l := fun h => ⟨(hK.2 l h).1, (hK.2 l h).2.1, (hK.2 l h).2.2.1⟩
  obtain ⟨k1, k2, k3, k4, k5, k6⟩ := hW
  refine am_spec (plainFor_of_name (by decide +kernel)) (Nat.le_of_ble_eq_true rfl) (L := [some (.ref 176), some (.int (iZ (l : Int))), some (.int (iZ (x : Int))), some (.int (iZ (y : Int))), some (.ref 1), none, none, none, none, none, none, none]) rfl (fun X C T => ?_)
  refine am_aload (q := 2) C dX9_counted_0 rfl rfl ?_
  refine am_iload_n (q := 3) C dX9_counted_2 rfl rfl ?_
  refine am_callN (q := 6) (As := [.int (iZ (l : Int))]) (rest := []) C mb_X5_has im_X5_has se_X5_has mn_X9_44 cb_5 kk_1 (show 1 < 215 by decide) dX9_counted_3 rfl (sp_X5_has isP_1 hA hK (p := (l : Int)) ⟨by omega, by omega⟩) rfl rfl ⟨by decide, by decide⟩ ⟨Nat.le_refl _, Nat.le_refl _⟩ (Nat.le_of_ble_eq_true rfl) (am_rie ?_)
  refine am_ifB_ne (q := 9) (tgt := 23) C dX9_counted_6 (by decide) rfl (fun c1 => ?_) (fun c1 => ?_)
  · refine am_aload (q := 25) C dX9_counted_23 rfl rfl ?_
    refine am_getR (q := 28) C fb_X9_48 dX9_counted_25 rfl rfl kk_1 (show 1 < 215 by decide) kr_1_0 ?_
    refine am_iload_n (q := 29) C dX9_counted_28 rfl rfl ?_
    refine am_ialoadZ (q := 30) l C dX9_counted_29 rfl kk_2 (show 2 < 215 by decide) rfl (by omega) (by decide) ?_
    refine am_intE (y := (iZ (pa t l : Int))) ((hA.2 l (by omega)).1) ?_
    refine am_istore (q := 32) (L' := [some (.ref 176), some (.int (iZ (l : Int))), some (.int (iZ (x : Int))), some (.int (iZ (y : Int))), some (.ref 1), some (.int (iZ (pa t l : Int))), none, none, none, none, none, none]) C dX9_counted_30 rfl (by decide) rfl rfl ?_
    refine am_aload (q := 34) C dX9_counted_32 rfl rfl ?_
    refine am_getR (q := 37) C fb_X9_52 dX9_counted_34 rfl rfl kk_1 (show 1 < 215 by decide) kr_1_1 ?_
    refine am_iload_n (q := 38) C dX9_counted_37 rfl rfl ?_
    refine am_ialoadZ (q := 39) l C dX9_counted_38 rfl kk_3 (show 3 < 215 by decide) rfl (by omega) (by decide) ?_
    refine am_intE (y := (iZ (pb t l : Int))) ((hA.2 l (by omega)).2.1) ?_
    refine am_istore (q := 41) (L' := [some (.ref 176), some (.int (iZ (l : Int))), some (.int (iZ (x : Int))), some (.int (iZ (y : Int))), some (.ref 1), some (.int (iZ (pa t l : Int))), some (.int (iZ (pb t l : Int))), none, none, none, none, none]) C dX9_counted_39 rfl (by decide) rfl rfl ?_
    refine am_aload (q := 43) C dX9_counted_41 rfl rfl ?_
    refine am_getR (q := 46) C fb_X9_55 dX9_counted_43 rfl rfl kk_1 (show 1 < 215 by decide) kr_1_3 ?_
    refine am_iload_n (q := 47) C dX9_counted_46 rfl rfl ?_
    refine am_laloadZ (q := 48) l C dX9_counted_47 rfl kk_5 (show 5 < 215 by decide) rfl (by omega) (by decide) ?_
    refine am_longE (y := (lN (ps t l))) ((hA.2 l (by omega)).2.2.2) ?_
    refine am_ldc2 (q := 51) C dX9_counted_48 rfl ck_X9_58 ?_
    refine am_longE (y := lN 2305843009213693951) rfl ?_
    refine am_lcmp (q := 52) C dX9_counted_51 rfl ?_
    refine am_if_ne (q := 55) (tgt := 79) C dX9_counted_52 (by decide) rfl (fun c2 => ?_) (fun c2 => ?_)
    · have c2 : ¬ (_) := fun z => c2 (((lg_cmp_eq _ _).trans (pk_lEQ (Nat.lt_trans (hK.2 l (by omega)).2.2.2.2.2 (by decide)) (by decide))).mpr z)
      refine am_lconst (q := 80) (v := lN 0) C dX9_counted_79 rfl rfl ?_
      refine am_lstore (q := 82) (L' := [some (.ref 176), some (.int (iZ (l : Int))), some (.int (iZ (x : Int))), some (.int (iZ (y : Int))), some (.ref 1), some (.int (iZ (pa t l : Int))), some (.int (iZ (pb t l : Int))), some (.long (lN 0)), none, none, none, none]) C dX9_counted_80 rfl (by decide) rfl rfl ?_
      refine am_iload_n (q := 83) C dX9_counted_82 rfl rfl ?_
      refine am_istore (q := 85) (L' := [some (.ref 176), some (.int (iZ (l : Int))), some (.int (iZ (x : Int))), some (.int (iZ (y : Int))), some (.ref 1), some (.int (iZ (pa t l : Int))), some (.int (iZ (pb t l : Int))), some (.long (lN 0)), none, some (.int (iZ (x : Int))), none, none]) C dX9_counted_83 rfl (by decide) rfl rfl ?_
      refine am_iload_n (q := 86) C dX9_counted_85 rfl rfl ?_
      refine am_istore (q := 88) (L' := [some (.ref 176), some (.int (iZ (l : Int))), some (.int (iZ (x : Int))), some (.int (iZ (y : Int))), some (.ref 1), some (.int (iZ (pa t l : Int))), some (.int (iZ (pb t l : Int))), some (.long (lN 0)), none, some (.int (iZ (x : Int))), some (.int (iZ (y : Int))), none]) C dX9_counted_86 rfl (by decide) rfl rfl ?_
      refine am_iconst (q := 89) (v := iZ 0) C dX9_counted_88 rfl rfl ?_
      refine am_istore (q := 91) (L' := [some (.ref 176), some (.int (iZ (l : Int))), some (.int (iZ (x : Int))), some (.int (iZ (y : Int))), some (.ref 1), some (.int (iZ (pa t l : Int))), some (.int (iZ (pb t l : Int))), some (.long (lN 0)), none, some (.int (iZ (x : Int))), some (.int (iZ (y : Int))), some (.int (iZ 0))]) C dX9_counted_89 rfl (by decide) rfl rfl ?_
      have lp : ∀ (fuel : Nat) (u v : Int) (k s : Nat), (-4 ≤ u ∧ u ≤ kx) → (-4 ≤ v ∧ v ≤ ky) → (∃ n, k + n = 61 ∧ s + (if 0 ≤ u ∧ 0 ≤ v then wsm (Wy t (pm t - (l + 1))) (ps t l) (pa t l) (pb t l) n k u.toNat v.toNat else 0) = Wy t (pm t - l) x y) → 62 - k < fuel → am_A G mX9_counted X (am_rm 4 0 0) 91 [some (.ref 176), some (.int (iZ (l : Int))), none, none, some (.ref 1), some (.int (iZ (pa t l : Int))), some (.int (iZ (pb t l : Int))), some (.long (lN s)), none, some (.int (iZ u)), some (.int (iZ v)), some (.int (iZ (k : Int)))] [] (215, kK, kR, I, J) 0 0 := by
        intro fuel
        induction fuel with
        | zero => intro u v k s h1 h2 h3 hf; exact absurd hf (Nat.not_lt_zero _)
        | succ fuel ih =>
          intro u v k s h1 h2 h3 hf
          obtain ⟨n, hn, hs⟩ := h3
          refine am_iload (q := 93) C dX9_counted_91 rfl rfl ?_
          refine am_bipush (q := 95) (v := iZ 60) C dX9_counted_93 rfl rfl ?_
          refine am_icmpZ_gt (q := 98) (tgt := 159) C dX9_counted_95 (by decide) rfl ⟨by omega, by omega⟩ ⟨by omega, by omega⟩ (fun e1 => ?_) (fun e1 => ?_)
          · refine am_lload (q := 161) C dX9_counted_159 rfl rfl ?_
            refine am_lret C T dX9_counted_161 rfl (Nat.le_refl _) (Nat.le_refl _) ⟨_, rfl, ?_⟩
            refine ⟨congrArg lN ?_, rfl⟩
            exact wsm_done (by omega) hs
          · refine am_iload (q := 100) C dX9_counted_98 rfl rfl ?_
            refine am_ifZ_lt (q := 103) (tgt := 159) C dX9_counted_100 (by decide) rfl ⟨by omega, by omega⟩ (fun e2 => ?_) (fun e2 => ?_)
            · refine am_lload (q := 161) C dX9_counted_159 rfl rfl ?_
              refine am_lret C T dX9_counted_161 rfl (Nat.le_refl _) (Nat.le_refl _) ⟨_, rfl, ?_⟩
              refine ⟨congrArg lN ?_, rfl⟩
              exact wsm_done (by omega) hs
            · refine am_iload (q := 105) C dX9_counted_103 rfl rfl ?_
              refine am_ifZ_lt (q := 108) (tgt := 159) C dX9_counted_105 (by decide) rfl ⟨by omega, by omega⟩ (fun e3 => ?_) (fun e3 => ?_)
              · refine am_lload (q := 161) C dX9_counted_159 rfl rfl ?_
                refine am_lret C T dX9_counted_161 rfl (Nat.le_refl _) (Nat.le_refl _) ⟨_, rfl, ?_⟩
                refine ⟨congrArg lN ?_, rfl⟩
                exact wsm_done (by omega) hs
              · refine am_lload (q := 110) C dX9_counted_108 rfl rfl ?_
                refine am_aload (q := 112) C dX9_counted_110 rfl rfl ?_
                refine am_iload_n (q := 113) C dX9_counted_112 rfl rfl ?_
                refine am_iload (q := 115) C dX9_counted_113 rfl rfl ?_
                refine am_callN (q := 118) (As := [.int (iZ (l : Int)), .int (iZ (k : Int))]) (rest := [.long (lN s)]) C mb_X5_allows im_X5_allows se_X5_allows mn_X9_64 cb_5 kk_1 (show 1 < 215 by decide) dX9_counted_115 rfl (sp_X5_allows isP_1 hA hK (p := (l : Int)) (k := (k : Int)) ⟨by omega, by omega⟩ ⟨by omega, by omega⟩) rfl rfl ⟨by decide, by decide⟩ ⟨Nat.le_refl _, Nat.le_refl _⟩ (Nat.le_of_ble_eq_true rfl) (am_rie ?_)
                refine am_intE (alw_ite (show l < pm t by omega)) ?_
                refine am_ifB_eq (q := 121) (tgt := 135) C dX9_counted_118 (by decide) rfl (fun e4 => ?_) (fun e4 => ?_)
                · refine am_lconst (q := 136) (v := lN 0) C dX9_counted_135 rfl rfl ?_
                  refine am_ladd (q := 137) C dX9_counted_136 rfl ?_
                  refine am_longE (lN_add _ _) ?_
                  refine am_lstore (q := 139) (L' := [some (.ref 176), some (.int (iZ (l : Int))), none, none, some (.ref 1), some (.int (iZ (pa t l : Int))), some (.int (iZ (pb t l : Int))), some (.long (lN (s + 0))), none, some (.int (iZ u)), some (.int (iZ v)), some (.int (iZ (k : Int)))]) C dX9_counted_137 rfl (by decide) rfl rfl ?_
                  refine am_iload (q := 141) C dX9_counted_139 rfl rfl ?_
                  refine am_iload (q := 143) C dX9_counted_141 rfl rfl ?_
                  refine am_isubZ (q := 144) C dX9_counted_143 rfl ?_
                  refine am_istore (q := 146) (L' := [some (.ref 176), some (.int (iZ (l : Int))), none, none, some (.ref 1), some (.int (iZ (pa t l : Int))), some (.int (iZ (pb t l : Int))), some (.long (lN (s + 0))), none, some (.int (iZ (u - (pa t l : Int)))), some (.int (iZ v)), some (.int (iZ (k : Int)))]) C dX9_counted_144 rfl (by decide) rfl rfl ?_
                  refine am_iload (q := 148) C dX9_counted_146 rfl rfl ?_
                  refine am_iload (q := 150) C dX9_counted_148 rfl rfl ?_
                  refine am_isubZ (q := 151) C dX9_counted_150 rfl ?_
                  refine am_istore (q := 153) (L' := [some (.ref 176), some (.int (iZ (l : Int))), none, none, some (.ref 1), some (.int (iZ (pa t l : Int))), some (.int (iZ (pb t l : Int))), some (.long (lN (s + 0))), none, some (.int (iZ (u - (pa t l : Int)))), some (.int (iZ (v - (pb t l : Int)))), some (.int (iZ (k : Int)))]) C dX9_counted_151 rfl (by decide) rfl rfl ?_
                  refine am_iincZ (q := 156) (L' := [some (.ref 176), some (.int (iZ (l : Int))), none, none, some (.ref 1), some (.int (iZ (pa t l : Int))), some (.int (iZ (pb t l : Int))), some (.long (lN (s + 0))), none, some (.int (iZ (u - (pa t l : Int)))), some (.int (iZ (v - (pb t l : Int)))), some (.int (iZ ((k + 1 : Nat) : Int)))]) C dX9_counted_153 rfl rfl (by omega) (by decide) rfl rfl ?_
                  refine am_goto (q := 91) C dX9_counted_156 (by decide) ?_
                  have hbit := bitOf_le (ps t l) k
                  exact ih (u - (pa t l : Int)) (v - (pb t l : Int)) (k + 1) _ (by omega) (by omega) (wsm_next (z := 0) hn (by omega) (by omega) (by rw [show bitOf (ps t l) k = 0 by omega, Nat.zero_mul]) hs) (by omega)
                · refine am_aload_n (q := 122) C dX9_counted_121 rfl rfl ?_
                  refine am_iload_n (q := 123) C dX9_counted_122 rfl rfl ?_
                  refine am_iconst (q := 124) (v := iZ 1) C dX9_counted_123 rfl rfl ?_
                  refine am_iaddZ (q := 125) C dX9_counted_124 rfl ?_
                  refine am_iload (q := 127) C dX9_counted_125 rfl rfl ?_
                  refine am_iload (q := 129) C dX9_counted_127 rfl rfl ?_
                  refine am_callV (q := 132) (As := [.int (iZ ((l : Int) + 1)), .int (iZ u), .int (iZ v)]) (rest := [.long (lN s)]) C mb_X9_at im_X9_at se_X9_at ml_X9_60 cb_9 kk_176 (show 176 < 215 by decide) dX9_counted_129 rfl (sp_X9_at hW9 (l := (l : Int) + 1) (x := u) (y := v) ⟨by omega, by omega⟩ ⟨by omega, by omega⟩ ⟨by omega, by omega⟩) rfl rfl ⟨by decide, by decide⟩ ⟨Nat.le_refl _, Nat.le_refl _⟩ (Nat.le_of_ble_eq_true rfl) (am_rle ?_)
                  refine am_longE (y := lN (Wy t (pm t - (l + 1)) u.toNat v.toNat)) ?_ ?_
                  · rw [if_pos (by omega), show ((l : Int) + 1).toNat = l + 1 from rfl]; exact hN _ _ (by omega) (by omega) (by omega)
                  refine am_goto (q := 136) C dX9_counted_132 (by decide) ?_
                  refine am_ladd (q := 137) C dX9_counted_136 rfl ?_
                  refine am_longE (lN_add _ _) ?_
                  refine am_lstore (q := 139) (L' := [some (.ref 176), some (.int (iZ (l : Int))), none, none, some (.ref 1), some (.int (iZ (pa t l : Int))), some (.int (iZ (pb t l : Int))), some (.long (lN (s + (Wy t (pm t - (l + 1)) u.toNat v.toNat)))), none, some (.int (iZ u)), some (.int (iZ v)), some (.int (iZ (k : Int)))]) C dX9_counted_137 rfl (by decide) rfl rfl ?_
                  refine am_iload (q := 141) C dX9_counted_139 rfl rfl ?_
                  refine am_iload (q := 143) C dX9_counted_141 rfl rfl ?_
                  refine am_isubZ (q := 144) C dX9_counted_143 rfl ?_
                  refine am_istore (q := 146) (L' := [some (.ref 176), some (.int (iZ (l : Int))), none, none, some (.ref 1), some (.int (iZ (pa t l : Int))), some (.int (iZ (pb t l : Int))), some (.long (lN (s + (Wy t (pm t - (l + 1)) u.toNat v.toNat)))), none, some (.int (iZ (u - (pa t l : Int)))), some (.int (iZ v)), some (.int (iZ (k : Int)))]) C dX9_counted_144 rfl (by decide) rfl rfl ?_
                  refine am_iload (q := 148) C dX9_counted_146 rfl rfl ?_
                  refine am_iload (q := 150) C dX9_counted_148 rfl rfl ?_
                  refine am_isubZ (q := 151) C dX9_counted_150 rfl ?_
                  refine am_istore (q := 153) (L' := [some (.ref 176), some (.int (iZ (l : Int))), none, none, some (.ref 1), some (.int (iZ (pa t l : Int))), some (.int (iZ (pb t l : Int))), some (.long (lN (s + (Wy t (pm t - (l + 1)) u.toNat v.toNat)))), none, some (.int (iZ (u - (pa t l : Int)))), some (.int (iZ (v - (pb t l : Int)))), some (.int (iZ (k : Int)))]) C dX9_counted_151 rfl (by decide) rfl rfl ?_
                  refine am_iincZ (q := 156) (L' := [some (.ref 176), some (.int (iZ (l : Int))), none, none, some (.ref 1), some (.int (iZ (pa t l : Int))), some (.int (iZ (pb t l : Int))), some (.long (lN (s + (Wy t (pm t - (l + 1)) u.toNat v.toNat)))), none, some (.int (iZ (u - (pa t l : Int)))), some (.int (iZ (v - (pb t l : Int)))), some (.int (iZ ((k + 1 : Nat) : Int)))]) C dX9_counted_153 rfl rfl (by omega) (by decide) rfl rfl ?_
                  refine am_goto (q := 91) C dX9_counted_156 (by decide) ?_
                  have hbit := bitOf_le (ps t l) k
                  exact ih (u - (pa t l : Int)) (v - (pb t l : Int)) (k + 1) _ (by omega) (by omega) (wsm_next (z := (Wy t (pm t - (l + 1)) u.toNat v.toNat)) hn (by omega) (by omega) (by rw [show bitOf (ps t l) k = 1 from (by assumption), Nat.one_mul]) hs) (by omega)
      refine am_wkA (L1 := [some (.ref 176), some (.int (iZ (l : Int))), none, none, some (.ref 1), some (.int (iZ (pa t l : Int))), some (.int (iZ (pb t l : Int))), some (.long (lN 0)), none, some (.int (iZ (x : Int))), some (.int (iZ (y : Int))), some (.int (iZ 0))]) ⟨rfl, ⟨rfl, ⟨rfl, ⟨rfl, ⟨rfl, ⟨rfl, ⟨rfl, ⟨rfl, ⟨rfl, trivial⟩⟩⟩⟩⟩⟩⟩⟩⟩ ?_
      exact lp 63 x y 0 0 (by omega) (by omega) ⟨61, rfl, by rw [if_pos (by omega), Nat.zero_add, Wy_part t (show l < pm t by omega)]; rfl⟩ (by omega)
    · have c2 := ((lg_cmp_eq _ _).trans (pk_lEQ (Nat.lt_trans (hK.2 l (by omega)).2.2.2.2.2 (by decide)) (by decide))).mp c2
      refine am_aload_n (q := 56) C dX9_counted_55 rfl rfl ?_
      refine am_iload_n (q := 57) C dX9_counted_56 rfl rfl ?_
      refine am_iconst (q := 58) (v := iZ 1) C dX9_counted_57 rfl rfl ?_
      refine am_iaddZ (q := 59) C dX9_counted_58 rfl ?_
      refine am_iload_n (q := 60) C dX9_counted_59 rfl rfl ?_
      refine am_iload_n (q := 61) C dX9_counted_60 rfl rfl ?_
      refine am_callV (q := 64) (As := [.int (iZ ((l : Int) + 1)), .int (iZ (x : Int)), .int (iZ (y : Int))]) (rest := []) C mb_X9_at im_X9_at se_X9_at ml_X9_60 cb_9 kk_176 (show 176 < 215 by decide) dX9_counted_61 rfl (sp_X9_at hW9 (l := (l : Int) + 1) (x := (x : Int)) (y := (y : Int)) ⟨by omega, by omega⟩ ⟨by omega, by omega⟩ ⟨by omega, by omega⟩) rfl rfl ⟨by decide, by decide⟩ ⟨Nat.le_refl _, Nat.le_refl _⟩ (Nat.le_of_ble_eq_true rfl) (am_rle ?_)
      refine am_longE (y := lN (Wy t (pm t - (l + 1)) x y)) ?_ ?_
      · rw [if_pos (by omega)]; exact hN x y hx hy (by omega)
      refine am_aload_n (q := 65) C dX9_counted_64 rfl rfl ?_
      refine am_iload_n (q := 66) C dX9_counted_65 rfl rfl ?_
      refine am_iload_n (q := 67) C dX9_counted_66 rfl rfl ?_
      refine am_iload (q := 69) C dX9_counted_67 rfl rfl ?_
      refine am_isubZ (q := 70) C dX9_counted_69 rfl ?_
      refine am_iload_n (q := 71) C dX9_counted_70 rfl rfl ?_
      refine am_iload (q := 73) C dX9_counted_71 rfl rfl ?_
      refine am_isubZ (q := 74) C dX9_counted_73 rfl ?_
      refine am_callV (q := 77) (As := [.int (iZ (l : Int)), .int (iZ ((x : Int) - (pa t l : Int))), .int (iZ ((y : Int) - (pb t l : Int)))]) (rest := [.long (lN (Wy t (pm t - (l + 1)) x y))]) C mb_X9_at im_X9_at se_X9_at ml_X9_60 cb_9 kk_176 (show 176 < 215 by decide) dX9_counted_74 rfl (sp_X9_at hW9 (l := (l : Int)) (x := (x : Int) - (pa t l : Int)) (y := (y : Int) - (pb t l : Int)) ⟨by omega, by omega⟩ ⟨by omega, by omega⟩ ⟨by omega, by omega⟩) rfl rfl ⟨by decide, by decide⟩ ⟨Nat.le_refl _, Nat.le_refl _⟩ (Nat.le_of_ble_eq_true rfl) (am_rle ?_)
      refine am_longE (y := lN (if pa t l ≤ x ∧ pb t l ≤ y then Wy t (pm t - l) (x - pa t l) (y - pb t l) else 0)) ?_ ?_
      · by_cases e : pa t l ≤ x ∧ pb t l ≤ y
        · rw [if_pos e, if_pos (by omega), show ((x : Int) - (pa t l : Int)).toNat = x - pa t l by omega, show ((y : Int) - (pb t l : Int)).toNat = y - pb t l by omega]; exact hS (by omega) e.1 e.2
        · rw [if_neg e, if_neg (by omega)]; rfl
      refine am_ladd (q := 78) C dX9_counted_77 rfl ?_
      refine am_longE (lN_add _ _) ?_
      refine am_lret C T dX9_counted_78 rfl (Nat.le_refl _) (Nat.le_refl _) ⟨_, rfl, ?_⟩
      refine ⟨?_, rfl⟩
      exact congrArg lN (Wy_any hK (by omega) (by assumption) (by omega) (by omega)).symm
  · refine am_iload_n (q := 10) C dX9_counted_9 rfl rfl ?_
    refine am_ifZ_ne (q := 13) (tgt := 21) C dX9_counted_10 (by decide) rfl ⟨by omega, by omega⟩ (fun c3 => ?_) (fun c3 => ?_)
    · refine am_lconst (q := 22) (v := lN 0) C dX9_counted_21 rfl rfl ?_
      refine am_lret C T dX9_counted_22 rfl (Nat.le_refl _) (Nat.le_refl _) ⟨_, rfl, ?_⟩
      refine ⟨?_, rfl⟩
      rw [Wy_end t (by omega)]
      exact congrArg lN (by unfold oneN; rw [if_neg (by omega)])
    · refine am_iload_n (q := 14) C dX9_counted_13 rfl rfl ?_
      refine am_ifZ_ne (q := 17) (tgt := 21) C dX9_counted_14 (by decide) rfl ⟨by omega, by omega⟩ (fun c4 => ?_) (fun c4 => ?_)
      · refine am_lconst (q := 22) (v := lN 0) C dX9_counted_21 rfl rfl ?_
        refine am_lret C T dX9_counted_22 rfl (Nat.le_refl _) (Nat.le_refl _) ⟨_, rfl, ?_⟩
        refine ⟨?_, rfl⟩
        rw [Wy_end t (by omega)]
        exact congrArg lN (by unfold oneN; rw [if_neg (by omega)])
      · refine am_lconst (q := 18) (v := lN 1) C dX9_counted_17 rfl rfl ?_
        refine am_goto (q := 22) C dX9_counted_18 (by decide) ?_
        refine am_lret C T dX9_counted_22 rfl (Nat.le_refl _) (Nat.le_refl _) ⟨_, rfl, ?_⟩
        refine ⟨?_, rfl⟩
        rw [Wy_end t (by omega)]
        exact congrArg lN (by unfold oneN; rw [if_pos (by omega)])
set_option maxRecDepth 4000 in
theorem sp_X9_reach {t : PT} (hA : atP 1 I J t) (hK : okP t) (hF : waysOK I J t) {x y : Int} (hx : 0 ≤ x ∧ x ≤ 1000) (hy : 0 ≤ y ∧ y ≤ 1000) : am_S G mX9_reach 5 0 0 [.ref 176, .int (iZ x), .int (iZ y), .ref 1] (215, kK, kR, I, J) (am_qv (fun w' => ∃ (I' : Nat → Nat → Int32) (J' : Nat → Nat → Int64), w' = (215, kK, kR, I', J') ∧ (∃ kx ky : Int, knW I' kx ky ∧ tabW J' kx ky t 0 ∧ min x 60 ≤ kx ∧ min y 60 ≤ ky) ∧ (∀ h, h ≠ 176 → I' h = I h) ∧ ∀ h, h ≠ 177 → J' h = J h)) := by
  have hm := hK.1
  obtain ⟨kx, ky, ⟨k1, k2, k3, k4, k5, k6⟩, hT⟩ := hF
  refine am_spec (plainFor_of_name (by decide +kernel)) (Nat.le_of_ble_eq_true rfl) (L := [some (.ref 176), some (.int (iZ x)), some (.int (iZ y)), some (.ref 1), none, none, none]) rfl (fun X C T => ?_)
  have mid : am_A G mX9_reach X (am_rm 5 0 0) 17 [some (.ref 176), some (.int (iZ x)), some (.int (iZ y)), some (.ref 1), none, none, none] [] (215, kK, kR, I, J) 0 0 := by
    refine am_aload_n (q := 18) C dX9_reach_17 rfl rfl ?_
    refine am_iload_n (q := 19) C dX9_reach_18 rfl rfl ?_
    refine am_aload_n (q := 20) C dX9_reach_19 rfl rfl ?_
    refine am_getIe (q := 23) (v := (iZ kx)) C fb_X9_15 dX9_reach_20 rfl rfl kk_176 (show 176 < 215 by decide) k1 ?_
    refine am_callS (q := 26) (As := [.int (iZ x), .int (iZ kx)]) (rest := [.ref 176]) C mb_J9_max_7cf53 st_J9_max_7cf53 ml_X9_22 dX9_reach_23 rfl (sp_max ⟨by omega, by omega⟩ ⟨by omega, by omega⟩) rfl rfl ⟨by decide, by decide⟩ ⟨Nat.le_refl _, Nat.le_refl _⟩ (Nat.le_of_ble_eq_true rfl) (am_rie ?_)
    refine am_bipush (q := 28) (v := iZ 60) C dX9_reach_26 rfl rfl ?_
    refine am_callS (q := 31) (As := [.int (iZ (max x kx)), .int (iZ 60)]) (rest := [.ref 176]) C mb_J9_min_7cf53 st_J9_min_7cf53 ml_X9_28 dX9_reach_28 rfl (sp_min ⟨by omega, by omega⟩ ⟨by omega, by omega⟩) rfl rfl ⟨by decide, by decide⟩ ⟨Nat.le_refl _, Nat.le_refl _⟩ (Nat.le_of_ble_eq_true rfl) (am_rie ?_)
    refine am_putI (q := 34) C fw_X9_15 dX9_reach_31 rfl rfl kk_176 (show 176 < 215 by decide) ?_
    refine am_aload_n (q := 35) C dX9_reach_34 rfl rfl ?_
    refine am_iload_n (q := 36) C dX9_reach_35 rfl rfl ?_
    refine am_aload_n (q := 37) C dX9_reach_36 rfl rfl ?_
    refine am_getIe (q := 40) (v := (iZ ky)) C fb_X9_19 dX9_reach_37 rfl rfl kk_176 (show 176 < 215 by decide) (by rw [am_up_ne _ _ _ _ (Or.inr (by decide))]; exact k2) ?_
    refine am_callS (q := 43) (As := [.int (iZ y), .int (iZ ky)]) (rest := [.ref 176]) C mb_J9_max_7cf53 st_J9_max_7cf53 ml_X9_22 dX9_reach_40 rfl (sp_max ⟨by omega, by omega⟩ ⟨by omega, by omega⟩) rfl rfl ⟨by decide, by decide⟩ ⟨Nat.le_refl _, Nat.le_refl _⟩ (Nat.le_of_ble_eq_true rfl) (am_rie ?_)
    refine am_bipush (q := 45) (v := iZ 60) C dX9_reach_43 rfl rfl ?_
    refine am_callS (q := 48) (As := [.int (iZ (max y ky)), .int (iZ 60)]) (rest := [.ref 176]) C mb_J9_min_7cf53 st_J9_min_7cf53 ml_X9_28 dX9_reach_45 rfl (sp_min ⟨by omega, by omega⟩ ⟨by omega, by omega⟩) rfl rfl ⟨by decide, by decide⟩ ⟨Nat.le_refl _, Nat.le_refl _⟩ (Nat.le_of_ble_eq_true rfl) (am_rie ?_)
    refine am_putI (q := 51) C fw_X9_19 dX9_reach_48 rfl rfl kk_176 (show 176 < 215 by decide) ?_
    have hI : ∀ h, h ≠ 176 → (am_up (am_up I 176 1 (iZ (min (max x kx) 60))) 176 2 (iZ (min (max y ky) 60))) h = I h := fun h hh => by rw [am_up_row _ _ _ _ hh, am_up_row _ _ _ _ hh]
    have hkn : knW (am_up (am_up I 176 1 (iZ (min (max x kx) 60))) 176 2 (iZ (min (max y ky) 60))) (min (max x kx) 60) (min (max y ky) 60) := ⟨am_up_ne _ _ _ _ (Or.inr (by decide)) |>.trans (am_up_eq _ _ _ _), am_up_eq _ _ _ _, by omega, by omega, by omega, by omega⟩
    obtain ⟨mx, hmx⟩ : ∃ z, z = min (max x kx) 60 := ⟨_, rfl⟩
    obtain ⟨my, hmy⟩ : ∃ z, z = min (max y ky) 60 := ⟨_, rfl⟩
    rw [← hmx, ← hmy] at hkn hI ⊢
    generalize (am_up (am_up I 176 1 (iZ mx)) 176 2 (iZ my)) = I1 at hI hkn ⊢
    have k7 := hkn.2.2.1
    have k8 := hkn.2.2.2.1
    have k9 := hkn.2.2.2.2.1
    have k10 := hkn.2.2.2.2.2
    have hA1 : ∀ J1 : Nat → Nat → Int64, (∀ h, h ≠ 177 → J1 h = J h) → atP 1 I1 J1 t := fun J1 h => hA.on (fun a h1 h2 => hI a (by omega)) (h 5 (by omega))
    have lp1 : ∀ (fuel : Nat) (l u v : Nat) (J1 : Nat → Nat → Int64), (l ≤ pm t) → ((u : Int) ≤ mx) → ((v : Int) ≤ my + 1) → (∀ h, h ≠ 177 → J1 h = J h) → (∀ l1 x1 y1 : Nat, l1 ≤ pm t → (x1 : Int) ≤ mx → (y1 : Int) ≤ my → (l < l1 ∨ l1 = l ∧ (x1 < u ∨ x1 = u ∧ y1 < v)) → J1 177 ((l1 * 61 + x1) * 61 + y1) = lN (Wy t (pm t - l1) x1 y1)) → (62 - v) < fuel → (∀ (J2 : Nat → Nat → Int64), (∀ h, h ≠ 177 → J2 h = J h) → (∀ l1 x1 y1 : Nat, l1 ≤ pm t → (x1 : Int) ≤ mx → (y1 : Int) ≤ my → (l < l1 ∨ l1 = l ∧ x1 < u + 1) → J2 177 ((l1 * 61 + x1) * 61 + y1) = lN (Wy t (pm t - l1) x1 y1)) → am_A G mX9_reach X (am_rm 5 0 0) 113 [some (.ref 176), none, none, some (.ref 1), some (.int (iZ (l : Int))), some (.int (iZ (u : Int))), none] [] (215, kK, kR, I1, J2) 0 0) → am_A G mX9_reach X (am_rm 5 0 0) 77 [some (.ref 176), none, none, some (.ref 1), some (.int (iZ (l : Int))), some (.int (iZ (u : Int))), some (.int (iZ (v : Int)))] [] (215, kK, kR, I1, J1) 0 0 := by
      intro fuel
      induction fuel with
      | zero => intro l u v J1 hl hu hv hJ hz hfu hk; exact absurd hfu (Nat.not_lt_zero _)
      | succ fuel ih =>
        intro l u v J1 hl hu hv hJ hz hfu hk
        refine am_iload (q := 79) C dX9_reach_77 rfl rfl ?_
        refine am_aload_n (q := 80) C dX9_reach_79 rfl rfl ?_
        refine am_getIe (q := 83) (v := (iZ my)) C fb_X9_19 dX9_reach_80 rfl rfl kk_176 (show 176 < 215 by decide) hkn.2.1 ?_
        refine am_icmpZ_gt (q := 86) (tgt := 113) C dX9_reach_83 (by decide) rfl ⟨by omega, by omega⟩ ⟨by omega, by omega⟩ (fun e1 => ?_) (fun e1 => ?_)
        · refine am_wkA (L1 := [some (.ref 176), none, none, some (.ref 1), some (.int (iZ (l : Int))), some (.int (iZ (u : Int))), none]) ⟨rfl, ⟨rfl, ⟨rfl, ⟨rfl, trivial⟩⟩⟩⟩ ?_
          exact hk _ hJ (fun l1 x1 y1 h1 h2 h3 h4 => hz l1 x1 y1 h1 h2 h3 (by omega))
        · refine am_aload_n (q := 87) C dX9_reach_86 rfl rfl ?_
          refine am_iload (q := 89) C dX9_reach_87 rfl rfl ?_
          refine am_iload (q := 91) C dX9_reach_89 rfl rfl ?_
          refine am_iload (q := 93) C dX9_reach_91 rfl rfl ?_
          refine am_aload_n (q := 94) C dX9_reach_93 rfl rfl ?_
          refine am_iload (q := 96) C dX9_reach_94 rfl rfl ?_
          refine am_iload (q := 98) C dX9_reach_96 rfl rfl ?_
          refine am_iload (q := 100) C dX9_reach_98 rfl rfl ?_
          refine am_aload_n (q := 101) C dX9_reach_100 rfl rfl ?_
          refine am_callV (q := 104) (As := [.int (iZ (l : Int)), .int (iZ (u : Int)), .int (iZ (v : Int)), .ref 1]) (rest := [.int (iZ (v : Int)), .int (iZ (u : Int)), .int (iZ (l : Int)), .ref 176]) C mb_X9_counted im_X9_counted se_X9_counted ml_X9_36 cb_9 kk_176 (show 176 < 215 by decide) dX9_reach_101 rfl (sp_X9_counted hkn (hA1 _ hJ) hK (l := l) (x := u) (y := v) hl hu (by omega) (fun x1 y1 h1 h2 h3 => hz (l + 1) x1 y1 (by omega) h1 h2 (by omega)) (fun h1 h2 h3 => hz l _ _ hl (by omega) (by omega) (by have := (hK.2 l h1).2.2.1; omega))) rfl rfl ⟨by decide, by decide⟩ ⟨Nat.le_refl _, Nat.le_refl _⟩ (Nat.le_of_ble_eq_true rfl) (am_rle ?_)
          refine am_callV (q := 107) (As := [.int (iZ (l : Int)), .int (iZ (u : Int)), .int (iZ (v : Int)), .long (lN (Wy t (pm t - l) u v))]) (rest := []) C mb_X9_set im_X9_set se_X9_set ml_X9_40 cb_9 kk_176 (show 176 < 215 by decide) dX9_reach_104 rfl (sp_X9_set (l := l) (x := u) (y := v) (by omega) (by omega) (by omega)) rfl rfl ⟨by decide, by decide⟩ ⟨Nat.le_refl _, Nat.le_refl _⟩ (Nat.le_of_ble_eq_true rfl) (am_rve ?_)
          refine am_iincZ (q := 110) (L' := [some (.ref 176), none, none, some (.ref 1), some (.int (iZ (l : Int))), some (.int (iZ (u : Int))), some (.int (iZ ((v + 1 : Nat) : Int)))]) C dX9_reach_107 rfl rfl (by omega) (by decide) rfl rfl ?_
          refine am_goto (q := 77) C dX9_reach_110 (by decide) ?_
          exact ih l u (v + 1) _ hl hu (by omega) (fun h hh => by rw [am_up_row _ _ _ _ hh]; exact hJ h hh) (fun l1 x1 y1 h1 h2 h3 h4 => by
            by_cases e : (l1 * 61 + x1) * 61 + y1 = (l * 61 + u) * 61 + v
            · have e1 : l1 = l := by omega
              have e2 : x1 = u := by omega
              have e3 : y1 = v := by omega
              subst e1; subst e2; subst e3
              exact am_up_eq _ _ _ _
            · rw [am_up_ne _ _ _ _ (Or.inr e)]; exact hz l1 x1 y1 h1 h2 h3 (by omega)) (by omega) hk
    have lp2 : ∀ (fuel : Nat) (l u : Nat) (J1 : Nat → Nat → Int64), (l ≤ pm t) → ((u : Int) ≤ mx + 1) → (∀ h, h ≠ 177 → J1 h = J h) → (∀ l1 x1 y1 : Nat, l1 ≤ pm t → (x1 : Int) ≤ mx → (y1 : Int) ≤ my → (l < l1 ∨ l1 = l ∧ x1 < u) → J1 177 ((l1 * 61 + x1) * 61 + y1) = lN (Wy t (pm t - l1) x1 y1)) → (62 - u) < fuel → (∀ (J2 : Nat → Nat → Int64), (∀ h, h ≠ 177 → J2 h = J h) → (∀ l1 x1 y1 : Nat, l1 ≤ pm t → (x1 : Int) ≤ mx → (y1 : Int) ≤ my → (l ≤ l1) → J2 177 ((l1 * 61 + x1) * 61 + y1) = lN (Wy t (pm t - l1) x1 y1)) → am_A G mX9_reach X (am_rm 5 0 0) 119 [some (.ref 176), none, none, some (.ref 1), some (.int (iZ (l : Int))), none, none] [] (215, kK, kR, I1, J2) 0 0) → am_A G mX9_reach X (am_rm 5 0 0) 65 [some (.ref 176), none, none, some (.ref 1), some (.int (iZ (l : Int))), some (.int (iZ (u : Int))), none] [] (215, kK, kR, I1, J1) 0 0 := by
      intro fuel
      induction fuel with
      | zero => intro l u J1 hl hu hJ hz hfu hk; exact absurd hfu (Nat.not_lt_zero _)
      | succ fuel ih =>
        intro l u J1 hl hu hJ hz hfu hk
        refine am_iload (q := 67) C dX9_reach_65 rfl rfl ?_
        refine am_aload_n (q := 68) C dX9_reach_67 rfl rfl ?_
        refine am_getIe (q := 71) (v := (iZ mx)) C fb_X9_15 dX9_reach_68 rfl rfl kk_176 (show 176 < 215 by decide) hkn.1 ?_
        refine am_icmpZ_gt (q := 74) (tgt := 119) C dX9_reach_71 (by decide) rfl ⟨by omega, by omega⟩ ⟨by omega, by omega⟩ (fun e2 => ?_) (fun e2 => ?_)
        · refine am_wkA (L1 := [some (.ref 176), none, none, some (.ref 1), some (.int (iZ (l : Int))), none, none]) ⟨rfl, ⟨rfl, ⟨rfl, trivial⟩⟩⟩ ?_
          exact hk _ hJ (fun l1 x1 y1 h1 h2 h3 h4 => hz l1 x1 y1 h1 h2 h3 (by omega))
        · refine am_iconst (q := 75) (v := iZ 0) C dX9_reach_74 rfl rfl ?_
          refine am_istore (q := 77) (L' := [some (.ref 176), none, none, some (.ref 1), some (.int (iZ (l : Int))), some (.int (iZ (u : Int))), some (.int (iZ 0))]) C dX9_reach_75 rfl (by decide) rfl rfl ?_
          refine lp1 63 l u 0 _ hl (by omega) (by omega) hJ (fun l1 x1 y1 h1 h2 h3 h4 => hz l1 x1 y1 h1 h2 h3 (by omega)) (by omega) (fun J2 hJ hz => ?_)
          refine am_iincZ (q := 116) (L' := [some (.ref 176), none, none, some (.ref 1), some (.int (iZ (l : Int))), some (.int (iZ ((u + 1 : Nat) : Int))), none]) C dX9_reach_113 rfl rfl (by omega) (by decide) rfl rfl ?_
          refine am_goto (q := 65) C dX9_reach_116 (by decide) ?_
          exact ih l (u + 1) _ hl (by omega) hJ hz (by omega) hk
    have lp3 : ∀ (fuel : Nat) (l : Int) (J1 : Nat → Nat → Int64), (-1 ≤ l ∧ l ≤ pm t) → (∀ h, h ≠ 177 → J1 h = J h) → (∀ l1 x1 y1 : Nat, l1 ≤ pm t → (x1 : Int) ≤ mx → (y1 : Int) ≤ my → (l < (l1 : Int)) → J1 177 ((l1 * 61 + x1) * 61 + y1) = lN (Wy t (pm t - l1) x1 y1)) → ((l + 1).toNat) < fuel → (∀ (J2 : Nat → Nat → Int64), (∀ h, h ≠ 177 → J2 h = J h) → (∀ l1 x1 y1 : Nat, l1 ≤ pm t → (x1 : Int) ≤ mx → (y1 : Int) ≤ my → (True) → J2 177 ((l1 * 61 + x1) * 61 + y1) = lN (Wy t (pm t - l1) x1 y1)) → am_A G mX9_reach X (am_rm 5 0 0) 125 [some (.ref 176), none, none, none, none, none, none] [] (215, kK, kR, I1, J2) 0 0) → am_A G mX9_reach X (am_rm 5 0 0) 57 [some (.ref 176), none, none, some (.ref 1), some (.int (iZ l)), none, none] [] (215, kK, kR, I1, J1) 0 0 := by
      intro fuel
      induction fuel with
      | zero => intro l J1 hl hJ hz hfu hk; exact absurd hfu (Nat.not_lt_zero _)
      | succ fuel ih =>
        intro l J1 hl hJ hz hfu hk
        refine am_iload (q := 59) C dX9_reach_57 rfl rfl ?_
        refine am_ifZ_lt (q := 62) (tgt := 125) C dX9_reach_59 (by decide) rfl ⟨by omega, by omega⟩ (fun e3 => ?_) (fun e3 => ?_)
        · refine am_wkA (L1 := [some (.ref 176), none, none, none, none, none, none]) ⟨rfl, trivial⟩ ?_
          exact hk _ hJ (fun l1 x1 y1 h1 h2 h3 h4 => hz l1 x1 y1 h1 h2 h3 (by omega))
        · obtain ⟨q, rfl⟩ : ∃ q : Nat, l = q := ⟨l.toNat, by omega⟩
          refine am_iconst (q := 63) (v := iZ 0) C dX9_reach_62 rfl rfl ?_
          refine am_istore (q := 65) (L' := [some (.ref 176), none, none, some (.ref 1), some (.int (iZ (q : Int))), some (.int (iZ 0)), none]) C dX9_reach_63 rfl (by decide) rfl rfl ?_
          refine lp2 63 q 0 _ (by omega) (by omega) hJ (fun l1 x1 y1 h1 h2 h3 h4 => hz l1 x1 y1 h1 h2 h3 (by omega)) (by omega) (fun J2 hJ hz => ?_)
          refine am_iincZ (q := 122) (L' := [some (.ref 176), none, none, some (.ref 1), some (.int (iZ ((q : Int) - 1))), none, none]) C dX9_reach_119 rfl rfl (by omega) (by decide) rfl rfl ?_
          refine am_goto (q := 57) C dX9_reach_122 (by decide) ?_
          exact ih _ _ (by omega) hJ (fun l1 x1 y1 h1 h2 h3 h4 => hz l1 x1 y1 h1 h2 h3 (by omega)) (by omega) hk
    refine am_aload_n (q := 52) C dX9_reach_51 rfl rfl ?_
    refine am_getIe (q := 55) (v := (iZ (pm t : Int))) C fb_X9_31 dX9_reach_52 rfl rfl kk_1 (show 1 < 215 by decide) (by rw [hI 1 (by decide)]; exact hA.1) ?_
    refine am_istore (q := 57) (L' := [some (.ref 176), some (.int (iZ x)), some (.int (iZ y)), some (.ref 1), some (.int (iZ (pm t : Int))), none, none]) C dX9_reach_55 rfl (by decide) rfl rfl ?_
    refine am_wkA (L1 := [some (.ref 176), none, none, some (.ref 1), some (.int (iZ (pm t : Int))), none, none]) ⟨rfl, ⟨rfl, ⟨rfl, trivial⟩⟩⟩ ?_
    refine lp3 (pm t + 2) (pm t : Int) J (by omega) (fun h hh => rfl) (fun l1 x1 y1 h1 h2 h3 h4 => absurd h4 (by omega)) (by omega) (fun J2 hJ hz => ?_)
    refine am_vret C T dX9_reach_125 rfl (Nat.le_refl _) (Nat.le_refl _) ⟨rfl, ?_⟩
    exact ⟨_, _, rfl, ⟨_, _, hkn, fun l1 x1 y1 h1 h2 h3 h4 => hz l1 x1 y1 h2 h3 h4 trivial, by omega, by omega⟩, hI, hJ⟩
  refine am_iload_n (q := 1) C dX9_reach_0 rfl rfl ?_
  refine am_aload_n (q := 2) C dX9_reach_1 rfl rfl ?_
  refine am_getIe (q := 5) (v := (iZ kx)) C fb_X9_15 dX9_reach_2 rfl rfl kk_176 (show 176 < 215 by decide) k1 ?_
  refine am_icmpZ_gt (q := 8) (tgt := 17) C dX9_reach_5 (by decide) rfl ⟨by omega, by omega⟩ ⟨by omega, by omega⟩ (fun c1 => ?_) (fun c1 => ?_)
  · exact mid
  · refine am_iload_n (q := 9) C dX9_reach_8 rfl rfl ?_
    refine am_aload_n (q := 10) C dX9_reach_9 rfl rfl ?_
    refine am_getIe (q := 13) (v := (iZ ky)) C fb_X9_19 dX9_reach_10 rfl rfl kk_176 (show 176 < 215 by decide) k2 ?_
    refine am_icmpZ_gt (q := 16) (tgt := 17) C dX9_reach_13 (by decide) rfl ⟨by omega, by omega⟩ ⟨by omega, by omega⟩ (fun c2 => ?_) (fun c2 => ?_)
    · exact mid
    · refine am_vret C T dX9_reach_16 rfl (Nat.le_refl _) (Nat.le_refl _) ⟨rfl, ?_⟩
      exact ⟨_, _, rfl, ⟨kx, ky, ⟨k1, k2, k3, k4, k5, k6⟩, hT, by omega, by omega⟩, fun h _ => rfl, fun h _ => rfl⟩
set_option maxRecDepth 4000 in
theorem sp_X9_through {kx ky : Int} (hW : knW I kx ky) {t : PT} (hA : atP 1 I J t) (hK : okP t) (hT : tabW J kx ky t 0) {p x y k : Nat} (hp : p < pm t) (hx : (x : Int) ≤ kx) (hy : (y : Int) ≤ ky) (hk : k ≤ 60) : am_S G mX9_through 4 0 0 [.ref 176, .int (iZ (p : Int)), .int (iZ (k : Int)), .int (iZ (x : Int)), .int (iZ (y : Int)), .ref 1] (215, kK, kR, I, J) (am_fl (lN (thr t p x y k)) (215, kK, kR, I, J)) := by
  have hW9 := hW
  have hm := hK.1
  obtain ⟨p1, p2, p3, p4, p5, p6⟩ := hK.2 p hp
  have q1 := Nat.mul_le_mul hk p1
  have q2 := Nat.mul_le_mul hk p2
  have e1 : (k : Int) * (pa t p : Int) = ((k * pa t p : Nat) : Int) := by simp
  have e2 : (k : Int) * (pb t p : Int) = ((k * pb t p : Nat) : Int) := by simp
  obtain ⟨k1, k2, k3, k4, k5, k6⟩ := hW
  refine am_spec (plainFor_of_name (by decide +kernel)) (Nat.le_of_ble_eq_true rfl) (L := [some (.ref 176), some (.int (iZ (p : Int))), some (.int (iZ (k : Int))), some (.int (iZ (x : Int))), some (.int (iZ (y : Int))), some (.ref 1)]) rfl (fun X C T => ?_)
  refine am_aload (q := 2) C dX9_through_0 rfl rfl ?_
  refine am_iload_n (q := 3) C dX9_through_2 rfl rfl ?_
  refine am_iload_n (q := 4) C dX9_through_3 rfl rfl ?_
  refine am_callN (q := 7) (As := [.int (iZ (p : Int)), .int (iZ (k : Int))]) (rest := []) C mb_X5_allows im_X5_allows se_X5_allows mn_X9_64 cb_5 kk_1 (show 1 < 215 by decide) dX9_through_4 rfl (sp_X5_allows isP_1 hA hK (p := (p : Int)) (k := (k : Int)) ⟨by omega, by omega⟩ ⟨by omega, by omega⟩) rfl rfl ⟨by decide, by decide⟩ ⟨Nat.le_refl _, Nat.le_refl _⟩ (Nat.le_of_ble_eq_true rfl) (am_rie ?_)
  refine am_intE (alw_ite hp) ?_
  refine am_ifB_ne (q := 10) (tgt := 12) C dX9_through_7 (by decide) rfl (fun c1 => ?_) (fun c1 => ?_)
  · refine am_aload_n (q := 13) C dX9_through_12 rfl rfl ?_
    refine am_iload_n (q := 14) C dX9_through_13 rfl rfl ?_
    refine am_iconst (q := 15) (v := iZ 1) C dX9_through_14 rfl rfl ?_
    refine am_iaddZ (q := 16) C dX9_through_15 rfl ?_
    refine am_iload_n (q := 17) C dX9_through_16 rfl rfl ?_
    refine am_iload_n (q := 18) C dX9_through_17 rfl rfl ?_
    refine am_aload (q := 20) C dX9_through_18 rfl rfl ?_
    refine am_getR (q := 23) C fb_X9_48 dX9_through_20 rfl rfl kk_1 (show 1 < 215 by decide) kr_1_0 ?_
    refine am_iload_n (q := 24) C dX9_through_23 rfl rfl ?_
    refine am_ialoadZ (q := 25) p C dX9_through_24 rfl kk_2 (show 2 < 215 by decide) rfl (by omega) (by decide) ?_
    refine am_intE (y := (iZ (pa t p : Int))) ((hA.2 p (by omega)).1) ?_
    refine am_imulZ (q := 26) C dX9_through_25 rfl ?_
    refine am_isubZ (q := 27) C dX9_through_26 rfl ?_
    refine am_iload (q := 29) C dX9_through_27 rfl rfl ?_
    refine am_iload_n (q := 30) C dX9_through_29 rfl rfl ?_
    refine am_aload (q := 32) C dX9_through_30 rfl rfl ?_
    refine am_getR (q := 35) C fb_X9_52 dX9_through_32 rfl rfl kk_1 (show 1 < 215 by decide) kr_1_1 ?_
    refine am_iload_n (q := 36) C dX9_through_35 rfl rfl ?_
    refine am_ialoadZ (q := 37) p C dX9_through_36 rfl kk_3 (show 3 < 215 by decide) rfl (by omega) (by decide) ?_
    refine am_intE (y := (iZ (pb t p : Int))) ((hA.2 p (by omega)).2.1) ?_
    refine am_imulZ (q := 38) C dX9_through_37 rfl ?_
    refine am_isubZ (q := 39) C dX9_through_38 rfl ?_
    refine am_callV (q := 42) (As := [.int (iZ ((p : Int) + 1)), .int (iZ ((x : Int) - ((k : Int) * (pa t p : Int)))), .int (iZ ((y : Int) - ((k : Int) * (pb t p : Int))))]) (rest := []) C mb_X9_at im_X9_at se_X9_at ml_X9_60 cb_9 kk_176 (show 176 < 215 by decide) dX9_through_39 rfl (sp_X9_at hW9 (l := (p : Int) + 1) (x := (x : Int) - ((k : Int) * (pa t p : Int))) (y := (y : Int) - ((k : Int) * (pb t p : Int))) ⟨by omega, by omega⟩ ⟨by omega, by omega⟩ ⟨by omega, by omega⟩) rfl rfl ⟨by decide, by decide⟩ ⟨Nat.le_refl _, Nat.le_refl _⟩ (Nat.le_of_ble_eq_true rfl) (am_rle ?_)
    refine am_longE (y := lN (thr t p x y k)) ?_ ?_
    · unfold thr
      rw [c1, Nat.one_mul]
      by_cases e : k * pa t p ≤ x ∧ k * pb t p ≤ y
      · rw [if_pos e, if_pos (by omega), show ((p : Int) + 1).toNat = p + 1 by omega, show ((x : Int) - ((k : Int) * (pa t p : Int))).toNat = x - k * pa t p by omega, show ((y : Int) - ((k : Int) * (pb t p : Int))).toNat = y - k * pb t p by omega]
        exact hT _ _ _ (by omega) (by omega) (by omega) (by omega)
      · rw [if_neg e, if_neg (by omega)]; rfl
    refine am_lret C T dX9_through_42 rfl (Nat.le_refl _) (Nat.le_refl _) ⟨_, rfl, ?_⟩
    exact ⟨rfl, rfl⟩
  · refine am_lconst (q := 11) (v := lN 0) C dX9_through_10 rfl rfl ?_
    refine am_lret C T dX9_through_11 rfl (Nat.le_refl _) (Nat.le_refl _) ⟨_, rfl, ?_⟩
    refine ⟨?_, rfl⟩
    unfold thr
    rw [show bitOf (ps t p) k = 0 by have := bitOf_le (ps t p) k; omega, Nat.zero_mul]
set_option maxRecDepth 4000 in
theorem sp_X9_taken {kx ky : Int} (hW : knW I kx ky) {t : PT} (hA : atP 1 I J t) (hK : okP t) (hT : tabW J kx ky t 0) {part x y i : Nat} (hp : part < pm t) (hx : (x : Int) ≤ kx) (hy : (y : Int) ≤ ky) (hi : i < 2147483648) (hr : i < Wy t (pm t) x y) : am_S G mX9_taken 5 0 0 [.ref 176, .int (iZ (x : Int)), .int (iZ (y : Int)), .int (iZ (i : Int)), .int (iZ (part : Int)), .ref 1] (215, kK, kR, I, J) (am_fi (iZ (tak t part (part + 1) 0 x y i : Int)) (215, kK, kR, I, J)) := by
  have hW9 := hW
  have hm := hK.1
  obtain ⟨k1, k2, k3, k4, k5, k6⟩ := hW
  refine am_spec (plainFor_of_name (by decide +kernel)) (Nat.le_of_ble_eq_true rfl) (L := [some (.ref 176), some (.int (iZ (x : Int))), some (.int (iZ (y : Int))), some (.int (iZ (i : Int))), some (.int (iZ (part : Int))), some (.ref 1), none, none, none, none, none, none]) rfl (fun X C T => ?_)
  have lp1 : ∀ (fuel : Nat) (p u v k r n : Nat), (p < pm t) → ((u : Int) ≤ kx) → ((v : Int) ≤ ky) → (k + n = 60) → (r < 2147483648) → (n) < fuel → (am_A G mX9_taken X (am_rm 5 0 0) 85 [some (.ref 176), none, none, none, some (.int (iZ (part : Int))), some (.ref 1), some (.long (lN ((tkk (thr t p u v) n k r).2))), none, some (.int (iZ (u : Int))), some (.int (iZ (v : Int))), some (.int (iZ (p : Int))), some (.int (iZ ((tkk (thr t p u v) n k r).1 : Int)))] [] (215, kK, kR, I, J) 0 0) → am_A G mX9_taken X (am_rm 5 0 0) 33 [some (.ref 176), none, none, none, some (.int (iZ (part : Int))), some (.ref 1), some (.long (lN r)), none, some (.int (iZ (u : Int))), some (.int (iZ (v : Int))), some (.int (iZ (p : Int))), some (.int (iZ (k : Int)))] [] (215, kK, kR, I, J) 0 0 := by
    intro fuel
    induction fuel with
    | zero => intro p u v k r n hp2 hu hv hk0 hr0 hfu hk; exact absurd hfu (Nat.not_lt_zero _)
    | succ fuel ih =>
      intro p u v k r n hp2 hu hv hk0 hr0 hfu hk
      refine am_iload (q := 35) C dX9_taken_33 rfl rfl ?_
      refine am_bipush (q := 37) (v := iZ 60) C dX9_taken_35 rfl rfl ?_
      refine am_icmpZ_ge (q := 40) (tgt := 85) C dX9_taken_37 (by decide) rfl ⟨by omega, by omega⟩ ⟨by omega, by omega⟩ (fun c1 => ?_) (fun c1 => ?_)
      · have e : tkk (thr t p u v) n k r = (k, r) := by
          rcases n with _ | n1
          · rfl
          · show (if _ then _ else _) = _; rw [if_neg (by omega)]
        rw [e] at hk
        exact hk
      · refine am_lload (q := 42) C dX9_taken_40 rfl rfl ?_
        refine am_aload_n (q := 43) C dX9_taken_42 rfl rfl ?_
        refine am_iload (q := 45) C dX9_taken_43 rfl rfl ?_
        refine am_iload (q := 47) C dX9_taken_45 rfl rfl ?_
        refine am_iload (q := 49) C dX9_taken_47 rfl rfl ?_
        refine am_iload (q := 51) C dX9_taken_49 rfl rfl ?_
        refine am_aload (q := 53) C dX9_taken_51 rfl rfl ?_
        refine am_callV (q := 56) (As := [.int (iZ (p : Int)), .int (iZ (k : Int)), .int (iZ (u : Int)), .int (iZ (v : Int)), .ref 1]) (rest := [.long (lN r)]) C mb_X9_through im_X9_through se_X9_through ml_X9_68 cb_9 kk_176 (show 176 < 215 by decide) dX9_taken_53 rfl (sp_X9_through hW9 hA hK hT (p := p) (k := k) (x := u) (y := v) (by omega) (by omega) (by omega) (by omega)) rfl rfl ⟨by decide, by decide⟩ ⟨Nat.le_refl _, Nat.le_refl _⟩ (Nat.le_of_ble_eq_true rfl) (am_rle ?_)
        refine am_lcmp (q := 57) C dX9_taken_56 rfl ?_
        refine am_if_lt (q := 60) (tgt := 85) C dX9_taken_57 (by decide) rfl (fun c2 => ?_) (fun c2 => ?_)
        · have c2 := ((lg_cmp_lt _ _).trans (pk_lLT (by omega) (by have := thr_le t hm p u v k; omega))).mp c2
          have e : tkk (thr t p u v) n k r = (k, r) := by
            rcases n with _ | n1
            · rfl
            · show (if _ then _ else _) = _; rw [if_neg (by omega)]
          rw [e] at hk
          exact hk
        · have c2 : ¬ (_) := fun z => c2 (((lg_cmp_lt _ _).trans (pk_lLT (by omega) (by have := thr_le t hm p u v k; omega))).mpr z)
          refine am_lload (q := 62) C dX9_taken_60 rfl rfl ?_
          refine am_aload_n (q := 63) C dX9_taken_62 rfl rfl ?_
          refine am_iload (q := 65) C dX9_taken_63 rfl rfl ?_
          refine am_iload (q := 67) C dX9_taken_65 rfl rfl ?_
          refine am_iload (q := 69) C dX9_taken_67 rfl rfl ?_
          refine am_iload (q := 71) C dX9_taken_69 rfl rfl ?_
          refine am_aload (q := 73) C dX9_taken_71 rfl rfl ?_
          refine am_callV (q := 76) (As := [.int (iZ (p : Int)), .int (iZ (k : Int)), .int (iZ (u : Int)), .int (iZ (v : Int)), .ref 1]) (rest := [.long (lN r)]) C mb_X9_through im_X9_through se_X9_through ml_X9_68 cb_9 kk_176 (show 176 < 215 by decide) dX9_taken_73 rfl (sp_X9_through hW9 hA hK hT (p := p) (k := k) (x := u) (y := v) (by omega) (by omega) (by omega) (by omega)) rfl rfl ⟨by decide, by decide⟩ ⟨Nat.le_refl _, Nat.le_refl _⟩ (Nat.le_of_ble_eq_true rfl) (am_rle ?_)
          refine am_lsub (q := 77) C dX9_taken_76 rfl ?_
          refine am_longE (y := (lN (r - thr t p u v k))) (lN_sub (by omega)) ?_
          refine am_lstore (q := 79) (L' := [some (.ref 176), none, none, none, some (.int (iZ (part : Int))), some (.ref 1), some (.long (lN (r - thr t p u v k))), none, some (.int (iZ (u : Int))), some (.int (iZ (v : Int))), some (.int (iZ (p : Int))), some (.int (iZ (k : Int)))]) C dX9_taken_77 rfl (by decide) rfl rfl ?_
          refine am_iincZ (q := 82) (L' := [some (.ref 176), none, none, none, some (.int (iZ (part : Int))), some (.ref 1), some (.long (lN (r - thr t p u v k))), none, some (.int (iZ (u : Int))), some (.int (iZ (v : Int))), some (.int (iZ (p : Int))), some (.int (iZ ((k + 1 : Nat) : Int)))]) C dX9_taken_79 rfl rfl (by omega) (by decide) rfl rfl ?_
          refine am_goto (q := 33) C dX9_taken_82 (by decide) ?_
          obtain ⟨n1, rfl⟩ : ∃ n1, n = n1 + 1 := ⟨n - 1, by omega⟩
          refine ih p u v (k + 1) (r - thr t p u v k) n1 hp2 hu hv (by omega) (by omega) (by omega) ?_
          have e : tkk (thr t p u v) (n1 + 1) k r = tkk (thr t p u v) n1 (k + 1) (r - thr t p u v k) := by show (if _ then _ else _) = _; rw [if_pos (by omega)]
          rw [e] at hk
          exact hk
  have lp2 : ∀ (fuel : Nat) (p u v r : Nat), (p ≤ part) → ((u : Int) ≤ kx) → ((v : Int) ≤ ky) → (r < 2147483648) → (r < Wy t (pm t - p) u v) → (tak t part (part + 1 - p) p u v r = tak t part (part + 1) 0 x y i) → (part - p) < fuel → am_A G mX9_taken X (am_rm 5 0 0) 13 [some (.ref 176), none, none, none, some (.int (iZ (part : Int))), some (.ref 1), some (.long (lN r)), none, some (.int (iZ (u : Int))), some (.int (iZ (v : Int))), some (.int (iZ (p : Int))), none] [] (215, kK, kR, I, J) 0 0 := by
    intro fuel
    induction fuel with
    | zero => intro p u v r hpp hu hv hr2 hr3 hz hf; exact absurd hf (Nat.not_lt_zero _)
    | succ fuel ih =>
      intro p u v r hpp hu hv hr2 hr3 hz hf
      refine am_iload (q := 15) C dX9_taken_13 rfl rfl ?_
      refine am_iload (q := 17) C dX9_taken_15 rfl rfl ?_
      refine am_icmpZ_gt (q := 20) (tgt := 133) C dX9_taken_17 (by decide) rfl ⟨by omega, by omega⟩ ⟨by omega, by omega⟩ (fun c3 => ?_) (fun c3 => ?_)
      · refine am_bipush (q := 135) (v := iZ (-3)) C dX9_taken_133 rfl rfl ?_
        refine am_iret C T dX9_taken_135 rfl (Nat.le_refl _) (Nat.le_refl _) ⟨_, rfl, ?_⟩
        exfalso; omega
      · refine am_aload (q := 22) C dX9_taken_20 rfl rfl ?_
        refine am_iload (q := 24) C dX9_taken_22 rfl rfl ?_
        refine am_callN (q := 27) (As := [.int (iZ (p : Int))]) (rest := []) C mb_X5_has im_X5_has se_X5_has mn_X9_44 cb_5 kk_1 (show 1 < 215 by decide) dX9_taken_24 rfl (sp_X5_has isP_1 hA hK (p := (p : Int)) ⟨by omega, by omega⟩) rfl rfl ⟨by decide, by decide⟩ ⟨Nat.le_refl _, Nat.le_refl _⟩ (Nat.le_of_ble_eq_true rfl) (am_rie ?_)
        refine am_ifB_eq (q := 30) (tgt := 133) C dX9_taken_27 (by decide) rfl (fun c4 => ?_) (fun c4 => ?_)
        · refine am_bipush (q := 135) (v := iZ (-3)) C dX9_taken_133 rfl rfl ?_
          refine am_iret C T dX9_taken_135 rfl (Nat.le_refl _) (Nat.le_refl _) ⟨_, rfl, ?_⟩
          exfalso; omega
        · refine am_iconst (q := 31) (v := iZ 0) C dX9_taken_30 rfl rfl ?_
          refine am_istore (q := 33) (L' := [some (.ref 176), none, none, none, some (.int (iZ (part : Int))), some (.ref 1), some (.long (lN r)), none, some (.int (iZ (u : Int))), some (.int (iZ (v : Int))), some (.int (iZ (p : Int))), some (.int (iZ 0))]) C dX9_taken_31 rfl (by decide) rfl rfl ?_
          rcases hkr : tkk (thr t p u v) 60 0 r with ⟨k, r2⟩
          obtain ⟨g1, g2, g3, g4⟩ := tak_next (show p < pm t by omega) hr3 hkr
          have g5 : r2 ≤ r := by have := (tkk_ok (thr t p u v) 60 0 r (Wy_thr t (show p < pm t by omega) u v ▸ hr3)).2.2.2; rw [hkr] at this; exact this
          refine lp1 61 p u v 0 r 60 (by omega) hu hv rfl (by omega) (by omega) ?_
          rw [hkr]
          have e1 : (k : Int) * (pa t p : Int) = ((k * pa t p : Nat) : Int) := by simp
          have e2 : (k : Int) * (pb t p : Int) = ((k * pb t p : Nat) : Int) := by simp
          refine am_iload (q := 87) C dX9_taken_85 rfl rfl ?_
          refine am_iload (q := 89) C dX9_taken_87 rfl rfl ?_
          refine am_icmpZ_ne (q := 92) (tgt := 95) C dX9_taken_89 (by decide) rfl ⟨by omega, by omega⟩ ⟨by omega, by omega⟩ (fun c5 => ?_) (fun c5 => ?_)
          · refine am_iload (q := 97) C dX9_taken_95 rfl rfl ?_
            refine am_iload (q := 99) C dX9_taken_97 rfl rfl ?_
            refine am_aload (q := 101) C dX9_taken_99 rfl rfl ?_
            refine am_getR (q := 104) C fb_X9_48 dX9_taken_101 rfl rfl kk_1 (show 1 < 215 by decide) kr_1_0 ?_
            refine am_iload (q := 106) C dX9_taken_104 rfl rfl ?_
            refine am_ialoadZ (q := 107) p C dX9_taken_106 rfl kk_2 (show 2 < 215 by decide) rfl (by omega) (by decide) ?_
            refine am_intE (y := (iZ (pa t p : Int))) ((hA.2 p (by omega)).1) ?_
            refine am_imulZ (q := 108) C dX9_taken_107 rfl ?_
            refine am_isubZ (q := 109) C dX9_taken_108 rfl ?_
            refine am_istore (q := 111) (L' := [some (.ref 176), none, none, none, some (.int (iZ (part : Int))), some (.ref 1), some (.long (lN r2)), none, some (.int (iZ ((u : Int) - ((k : Int) * (pa t p : Int))))), some (.int (iZ (v : Int))), some (.int (iZ (p : Int))), some (.int (iZ (k : Int)))]) C dX9_taken_109 rfl (by decide) rfl rfl ?_
            refine am_iload (q := 113) C dX9_taken_111 rfl rfl ?_
            refine am_iload (q := 115) C dX9_taken_113 rfl rfl ?_
            refine am_aload (q := 117) C dX9_taken_115 rfl rfl ?_
            refine am_getR (q := 120) C fb_X9_52 dX9_taken_117 rfl rfl kk_1 (show 1 < 215 by decide) kr_1_1 ?_
            refine am_iload (q := 122) C dX9_taken_120 rfl rfl ?_
            refine am_ialoadZ (q := 123) p C dX9_taken_122 rfl kk_3 (show 3 < 215 by decide) rfl (by omega) (by decide) ?_
            refine am_intE (y := (iZ (pb t p : Int))) ((hA.2 p (by omega)).2.1) ?_
            refine am_imulZ (q := 124) C dX9_taken_123 rfl ?_
            refine am_isubZ (q := 125) C dX9_taken_124 rfl ?_
            refine am_istore (q := 127) (L' := [some (.ref 176), none, none, none, some (.int (iZ (part : Int))), some (.ref 1), some (.long (lN r2)), none, some (.int (iZ ((u : Int) - ((k : Int) * (pa t p : Int))))), some (.int (iZ ((v : Int) - ((k : Int) * (pb t p : Int))))), some (.int (iZ (p : Int))), some (.int (iZ (k : Int)))]) C dX9_taken_125 rfl (by decide) rfl rfl ?_
            refine am_iincZ (q := 130) (L' := [some (.ref 176), none, none, none, some (.int (iZ (part : Int))), some (.ref 1), some (.long (lN r2)), none, some (.int (iZ ((u : Int) - ((k : Int) * (pa t p : Int))))), some (.int (iZ ((v : Int) - ((k : Int) * (pb t p : Int))))), some (.int (iZ ((p + 1 : Nat) : Int))), some (.int (iZ (k : Int)))]) C dX9_taken_127 rfl rfl (by omega) (by decide) rfl rfl ?_
            refine am_goto (q := 13) C dX9_taken_130 (by decide) ?_
            refine am_wkA (L1 := [some (.ref 176), none, none, none, some (.int (iZ (part : Int))), some (.ref 1), some (.long (lN r2)), none, some (.int (iZ ((u : Int) - ((k : Int) * (pa t p : Int))))), some (.int (iZ ((v : Int) - ((k : Int) * (pb t p : Int))))), some (.int (iZ ((p + 1 : Nat) : Int))), none]) ⟨rfl, ⟨rfl, ⟨rfl, ⟨rfl, ⟨rfl, ⟨rfl, ⟨rfl, trivial⟩⟩⟩⟩⟩⟩⟩ ?_
            rw [show (u : Int) - (k : Int) * (pa t p : Int) = ((u - k * pa t p : Nat) : Int) by omega, show (v : Int) - (k : Int) * (pb t p : Int) = ((v - k * pb t p : Nat) : Int) by omega]
            refine ih (p + 1) (u - k * pa t p) (v - k * pb t p) r2 (by omega) (by omega) (by omega) (by omega) g4 ?_ (by omega)
            rw [← hz, show part + 1 - p = (part + 1 - (p + 1)) + 1 by omega]
            show _ = (if _ then _ else _)
            rw [if_neg (by omega), hkr]
          · refine am_iload (q := 94) C dX9_taken_92 rfl rfl ?_
            refine am_iret C T dX9_taken_94 rfl (Nat.le_refl _) (Nat.le_refl _) ⟨_, rfl, ?_⟩
            refine ⟨congrArg iZ ?_, rfl⟩
            rw [← hz, show part + 1 - p = (part - p) + 1 by omega]
            show _ = (((if _ then _ else _) : Nat) : Int)
            rw [if_pos (by omega), hkr]
  refine am_iload_n (q := 1) C dX9_taken_0 rfl rfl ?_
  refine am_i2lZ (q := 2) C dX9_taken_1 rfl ⟨by omega, by omega⟩ ?_
  refine am_longE (y := (lN i)) rfl ?_
  refine am_lstore (q := 4) (L' := [some (.ref 176), some (.int (iZ (x : Int))), some (.int (iZ (y : Int))), some (.int (iZ (i : Int))), some (.int (iZ (part : Int))), some (.ref 1), some (.long (lN i)), none, none, none, none, none]) C dX9_taken_2 rfl (by decide) rfl rfl ?_
  refine am_iload_n (q := 5) C dX9_taken_4 rfl rfl ?_
  refine am_istore (q := 7) (L' := [some (.ref 176), some (.int (iZ (x : Int))), some (.int (iZ (y : Int))), some (.int (iZ (i : Int))), some (.int (iZ (part : Int))), some (.ref 1), some (.long (lN i)), none, some (.int (iZ (x : Int))), none, none, none]) C dX9_taken_5 rfl (by decide) rfl rfl ?_
  refine am_iload_n (q := 8) C dX9_taken_7 rfl rfl ?_
  refine am_istore (q := 10) (L' := [some (.ref 176), some (.int (iZ (x : Int))), some (.int (iZ (y : Int))), some (.int (iZ (i : Int))), some (.int (iZ (part : Int))), some (.ref 1), some (.long (lN i)), none, some (.int (iZ (x : Int))), some (.int (iZ (y : Int))), none, none]) C dX9_taken_8 rfl (by decide) rfl rfl ?_
  refine am_iconst (q := 11) (v := iZ 0) C dX9_taken_10 rfl rfl ?_
  refine am_istore (q := 13) (L' := [some (.ref 176), some (.int (iZ (x : Int))), some (.int (iZ (y : Int))), some (.int (iZ (i : Int))), some (.int (iZ (part : Int))), some (.ref 1), some (.long (lN i)), none, some (.int (iZ (x : Int))), some (.int (iZ (y : Int))), some (.int (iZ 0)), none]) C dX9_taken_11 rfl (by decide) rfl rfl ?_
  refine am_wkA (L1 := [some (.ref 176), none, none, none, some (.int (iZ (part : Int))), some (.ref 1), some (.long (lN i)), none, some (.int (iZ (x : Int))), some (.int (iZ (y : Int))), some (.int (iZ 0)), none]) ⟨rfl, ⟨rfl, ⟨rfl, ⟨rfl, ⟨rfl, ⟨rfl, ⟨rfl, trivial⟩⟩⟩⟩⟩⟩⟩ ?_
  exact lp2 (part + 1) 0 x y i (by omega) hx hy hi hr rfl (by omega)
