variable {G : am_G} {I : Nat → Nat → Int32} {J : Nat → Nat → Int64}
abbrev nbO (n : Nat) (b : Nat → Nat) (s : Nat) (least : Int) : Prop := srt n b s = 2 ∧ least ≤ tkN b s (tkZ n b s)
set_option maxRecDepth 8000 in
theorem sp_X11_number {n : Nat} {b : Nat → Nat} {s : Nat} (hP : psM I n b s false) {least : Int} (hl : least = 0 ∨ least = 1) : am_S G mX11_number 4 0 0 [.ref 191, .int (iZ least)] (215, kK, kR, I, J) (am_qi (fun v0 w' => ∃ (v : Int) (I' : Nat → Nat → Int32), v0 = iZ v ∧ (-200000 ≤ v ∧ v ≤ 200000) ∧ w' = (215, kK, kR, I', J) ∧ frP I I' ∧ ((nbO n b s least ∧ v = tkN b s (tkZ n b s) ∧ psM I' n b (nxP n b s) false) ∨ (¬ nbO n b s least ∧ psM I' n b s true)))) := by
  obtain ⟨hB, hsn, h22, h23, h24⟩ := hP
  have hn := hB.2.1
  have hz := tkZ_le (b := b) hsn
  obtain ⟨e, he⟩ : ∃ e, tkZ n b s = e := ⟨_, rfl⟩
  rw [he] at h23 hz
  have hgt : s < n → s + 1 ≤ e := fun h => by rw [← he]; exact tkZ_gt (mt srt_0.mp (by omega))
  refine am_spec (plainFor_of_name (by decide +kernel)) (Nat.le_of_ble_eq_true rfl) (L := [some (.ref 191), some (.int (iZ least)), none, none]) rfl (fun X C T => ?_)
  have lp : ∀ (fuel : Nat) (k : Nat) (v : Int), (s ≤ k ∧ k ≤ e ∧ k ≤ s + 3) → (k = s → v = 0) → (k = s + 1 → -1000 ≤ v ∧ v ≤ 1000) → (k = s + 2 → -10100 ≤ v ∧ v ≤ 10100) → (k = s + 3 → -110000 ≤ v ∧ v ≤ 110000) → (srt n b s = 2 → ¬ 2 < e - s → nmV b (e - k) k v = nmV b (e - s) s 0) → (srt n b s ≠ 2 → s < k → v = -1000) → (e - k) < fuel → am_A G mX11_number X (am_rm 4 0 0) 7 [some (.ref 191), some (.int (iZ least)), some (.int (iZ v)), some (.int (iZ (k : Int)))] [] (215, kK, kR, I, J) 0 0 := by
    intro fuel
    induction fuel with
    | zero => intro k v hk b0 b1 b2 b3 hD hND hf; exact absurd hf (Nat.not_lt_zero _)
    | succ fuel ih =>
      intro k v hk b0 b1 b2 b3 hD hND hf
      refine am_iload_n (q := 8) C dX11_number_7 rfl rfl ?_
      refine am_aload_n (q := 9) C dX11_number_8 rfl rfl ?_
      refine am_getIe (q := 12) (v := (iZ (e : Int))) C fb_X11_122 dX11_number_9 rfl rfl kk_191 (show 191 < 215 by decide) h23 ?_
      refine am_icmpZ_ge (q := 15) (tgt := 64) C dX11_number_12 (by decide) rfl ⟨by omega, by omega⟩ ⟨by omega, by omega⟩ (fun c1 => ?_) (fun c1 => ?_)
      · refine am_aload_n (q := 65) C dX11_number_64 rfl rfl ?_
        refine am_aload_n (q := 66) C dX11_number_65 rfl rfl ?_
        refine am_getIe (q := 69) (v := (iZ 0)) C fb_X11_131 dX11_number_66 rfl rfl kk_191 (show 191 < 215 by decide) (h24.trans rfl) ?_
        refine am_ifZ_ne (q := 72) (tgt := 101) C dX11_number_69 (by decide) rfl ⟨by omega, by omega⟩ (fun c2 => ?_) (fun c2 => ?_)
        · exact absurd c2 (by decide)
        · refine am_aload_n (q := 73) C dX11_number_72 rfl rfl ?_
          refine am_getIe (q := 76) (v := (iZ (e : Int))) C fb_X11_122 dX11_number_73 rfl rfl kk_191 (show 191 < 215 by decide) h23 ?_
          refine am_aload_n (q := 77) C dX11_number_76 rfl rfl ?_
          refine am_getIe (q := 80) (v := (iZ (s : Int))) C fb_X11_125 dX11_number_77 rfl rfl kk_191 (show 191 < 215 by decide) h22 ?_
          refine am_icmpZ_eq (q := 83) (tgt := 101) C dX11_number_80 (by decide) rfl ⟨by omega, by omega⟩ ⟨by omega, by omega⟩ (fun c3 => ?_) (fun c3 => ?_)
          · refine am_iconst (q := 102) (v := iZ 1) C dX11_number_101 rfl rfl ?_
            refine am_goto (q := 106) C dX11_number_102 (by decide) ?_
            refine am_putZ (q := 109) C fw_X11_131 dX11_number_106 rfl rfl (Or.inr rfl) kk_191 (show 191 < 215 by decide) ?_
            refine am_aload_n (q := 110) C dX11_number_109 rfl rfl ?_
            refine am_getIe (q := 113) (v := (iZ 1)) C fb_X11_131 dX11_number_110 rfl rfl kk_191 (show 191 < 215 by decide) (by rw [am_up_eq]) ?_
            refine am_ifZ_ne (q := 116) (tgt := 120) C dX11_number_113 (by decide) rfl ⟨by omega, by omega⟩ (fun c4 => ?_) (fun c4 => ?_)
            · refine am_iload_n (q := 121) C dX11_number_120 rfl rfl ?_
              refine am_iret C T dX11_number_121 rfl (Nat.le_refl _) (Nat.le_refl _) ⟨_, rfl, ?_⟩
              have hrv : -200000 ≤ v ∧ v ≤ 200000 := by omega
              have hno : ¬ nbO n b s least := fun ⟨z1, z2⟩ => by
                have y1 := (srt_2.mp z1).1
                have y2 := hgt y1
                rw [he] at z2
                by_cases h9 : 2 < e - s
                · unfold tkN at z2; rw [if_pos h9] at z2; omega
                · have hv2 := hD z1 (by omega)
                  rw [show e - k = 0 by omega] at hv2
                  unfold tkN at z2; rw [if_neg h9, ← hv2] at z2
                  have : nmV b 0 k v = v := rfl
                  omega
              refine ⟨v, _, rfl, hrv, rfl, frP_up frP_refl, Or.inr ⟨hno, ?_⟩⟩
              refine ⟨(frP_up frP_refl).B hB, hsn, ?_, ?_, am_up_eq _ _ _ _⟩
              · rw [am_up_ne _ _ _ _ (Or.inr (by decide))]; exact h22
              · rw [am_up_ne _ _ _ _ (Or.inr (by decide)), he]; exact h23
            · exact absurd c4 (by decide)
          · refine am_aload_n (q := 84) C dX11_number_83 rfl rfl ?_
            refine am_getIe (q := 87) (v := (iZ (e : Int))) C fb_X11_122 dX11_number_84 rfl rfl kk_191 (show 191 < 215 by decide) h23 ?_
            refine am_aload_n (q := 88) C dX11_number_87 rfl rfl ?_
            refine am_getIe (q := 91) (v := (iZ (s : Int))) C fb_X11_125 dX11_number_88 rfl rfl kk_191 (show 191 < 215 by decide) h22 ?_
            refine am_isubZ (q := 92) C dX11_number_91 rfl ?_
            refine am_iconst (q := 93) (v := iZ 2) C dX11_number_92 rfl rfl ?_
            refine am_icmpZ_gt (q := 96) (tgt := 101) C dX11_number_93 (by decide) rfl ⟨by omega, by omega⟩ ⟨by omega, by omega⟩ (fun c5 => ?_) (fun c5 => ?_)
            · refine am_iconst (q := 102) (v := iZ 1) C dX11_number_101 rfl rfl ?_
              refine am_goto (q := 106) C dX11_number_102 (by decide) ?_
              refine am_putZ (q := 109) C fw_X11_131 dX11_number_106 rfl rfl (Or.inr rfl) kk_191 (show 191 < 215 by decide) ?_
              refine am_aload_n (q := 110) C dX11_number_109 rfl rfl ?_
              refine am_getIe (q := 113) (v := (iZ 1)) C fb_X11_131 dX11_number_110 rfl rfl kk_191 (show 191 < 215 by decide) (by rw [am_up_eq]) ?_
              refine am_ifZ_ne (q := 116) (tgt := 120) C dX11_number_113 (by decide) rfl ⟨by omega, by omega⟩ (fun c6 => ?_) (fun c6 => ?_)
              · refine am_iload_n (q := 121) C dX11_number_120 rfl rfl ?_
                refine am_iret C T dX11_number_121 rfl (Nat.le_refl _) (Nat.le_refl _) ⟨_, rfl, ?_⟩
                have hrv : -200000 ≤ v ∧ v ≤ 200000 := by omega
                have hno : ¬ nbO n b s least := fun ⟨z1, z2⟩ => by
                  have y1 := (srt_2.mp z1).1
                  have y2 := hgt y1
                  rw [he] at z2
                  by_cases h9 : 2 < e - s
                  · unfold tkN at z2; rw [if_pos h9] at z2; omega
                  · have hv2 := hD z1 (by omega)
                    rw [show e - k = 0 by omega] at hv2
                    unfold tkN at z2; rw [if_neg h9, ← hv2] at z2
                    have : nmV b 0 k v = v := rfl
                    omega
                refine ⟨v, _, rfl, hrv, rfl, frP_up frP_refl, Or.inr ⟨hno, ?_⟩⟩
                refine ⟨(frP_up frP_refl).B hB, hsn, ?_, ?_, am_up_eq _ _ _ _⟩
                · rw [am_up_ne _ _ _ _ (Or.inr (by decide))]; exact h22
                · rw [am_up_ne _ _ _ _ (Or.inr (by decide)), he]; exact h23
              · exact absurd c6 (by decide)
            · refine am_iload_n (q := 97) C dX11_number_96 rfl rfl ?_
              refine am_iload_n (q := 98) C dX11_number_97 rfl rfl ?_
              refine am_icmpZ_ge (q := 101) (tgt := 105) C dX11_number_98 (by decide) rfl ⟨by omega, by omega⟩ ⟨by omega, by omega⟩ (fun c7 => ?_) (fun c7 => ?_)
              · refine am_iconst (q := 106) (v := iZ 0) C dX11_number_105 rfl rfl ?_
                refine am_putZ (q := 109) C fw_X11_131 dX11_number_106 rfl rfl (Or.inl rfl) kk_191 (show 191 < 215 by decide) ?_
                refine am_aload_n (q := 110) C dX11_number_109 rfl rfl ?_
                refine am_getIe (q := 113) (v := (iZ 0)) C fb_X11_131 dX11_number_110 rfl rfl kk_191 (show 191 < 215 by decide) (by rw [am_up_eq]) ?_
                refine am_ifZ_ne (q := 116) (tgt := 120) C dX11_number_113 (by decide) rfl ⟨by omega, by omega⟩ (fun c8 => ?_) (fun c8 => ?_)
                · exact absurd c8 (by decide)
                · refine am_aload_n (q := 117) C dX11_number_116 rfl rfl ?_
                  refine am_callV (q := 120) (As := []) (rest := []) C mb_X11_next im_X11_next se_X11_next ml_X11_139 cb_11 kk_191 (show 191 < 215 by decide) dX11_number_117 rfl (sp_X11_next ((frP_up frP_refl).B hB) hz.2 (by rw [am_up_ne _ _ _ _ (Or.inr (by decide))]; exact h23)) rfl rfl ⟨by decide, by decide⟩ ⟨Nat.le_refl _, Nat.le_refl _⟩ (Nat.le_of_ble_eq_true rfl) (am_rv (fun w' hw' => ?_))
                  obtain ⟨I1, rfl, n1, n2, n3⟩ := hw'
                  refine am_iload_n (q := 121) C dX11_number_120 rfl rfl ?_
                  refine am_iret C T dX11_number_121 rfl (Nat.le_refl _) (Nat.le_refl _) ⟨_, rfl, ?_⟩
                  have hrv : -200000 ≤ v ∧ v ≤ 200000 := by omega
                  have hd2 : srt n b s = 2 := by
                    by_cases e2 : srt n b s = 2
                    · exact e2
                    · have := hND e2 (by omega); omega
                  have hv2 := hD hd2 (by omega)
                  rw [show e - k = 0 by omega] at hv2
                  have hv3 : v = tkN b s (tkZ n b s) := by rw [he]; unfold tkN; rw [if_neg (by omega)]; exact hv2
                  have hok : nbO n b s least := ⟨hd2, by rw [← hv3]; omega⟩
                  refine ⟨v, _, rfl, hrv, rfl, frP_tr (frP_up frP_refl) n3.P, Or.inl ⟨hok, hv3, ?_⟩⟩
                  refine ⟨n3.P.B ((frP_up frP_refl).B hB), (nxP_le hsn).2, ?_, ?_, ?_⟩
                  · unfold nxP; rw [he]; exact n1
                  · unfold nxP; rw [he]; exact n2
                  · rw [n3.1 24 (by decide) (by decide)]; exact am_up_eq _ _ _ _
              · refine am_iconst (q := 102) (v := iZ 1) C dX11_number_101 rfl rfl ?_
                refine am_goto (q := 106) C dX11_number_102 (by decide) ?_
                refine am_putZ (q := 109) C fw_X11_131 dX11_number_106 rfl rfl (Or.inr rfl) kk_191 (show 191 < 215 by decide) ?_
                refine am_aload_n (q := 110) C dX11_number_109 rfl rfl ?_
                refine am_getIe (q := 113) (v := (iZ 1)) C fb_X11_131 dX11_number_110 rfl rfl kk_191 (show 191 < 215 by decide) (by rw [am_up_eq]) ?_
                refine am_ifZ_ne (q := 116) (tgt := 120) C dX11_number_113 (by decide) rfl ⟨by omega, by omega⟩ (fun c9 => ?_) (fun c9 => ?_)
                · refine am_iload_n (q := 121) C dX11_number_120 rfl rfl ?_
                  refine am_iret C T dX11_number_121 rfl (Nat.le_refl _) (Nat.le_refl _) ⟨_, rfl, ?_⟩
                  have hrv : -200000 ≤ v ∧ v ≤ 200000 := by omega
                  have hno : ¬ nbO n b s least := fun ⟨z1, z2⟩ => by
                    have y1 := (srt_2.mp z1).1
                    have y2 := hgt y1
                    rw [he] at z2
                    by_cases h9 : 2 < e - s
                    · unfold tkN at z2; rw [if_pos h9] at z2; omega
                    · have hv2 := hD z1 (by omega)
                      rw [show e - k = 0 by omega] at hv2
                      unfold tkN at z2; rw [if_neg h9, ← hv2] at z2
                      have : nmV b 0 k v = v := rfl
                      omega
                  refine ⟨v, _, rfl, hrv, rfl, frP_up frP_refl, Or.inr ⟨hno, ?_⟩⟩
                  refine ⟨(frP_up frP_refl).B hB, hsn, ?_, ?_, am_up_eq _ _ _ _⟩
                  · rw [am_up_ne _ _ _ _ (Or.inr (by decide))]; exact h22
                  · rw [am_up_ne _ _ _ _ (Or.inr (by decide)), he]; exact h23
                · exact absurd c9 (by decide)
      · refine am_iload_n (q := 16) C dX11_number_15 rfl rfl ?_
        refine am_aload_n (q := 17) C dX11_number_16 rfl rfl ?_
        refine am_getIe (q := 20) (v := (iZ (s : Int))) C fb_X11_125 dX11_number_17 rfl rfl kk_191 (show 191 < 215 by decide) h22 ?_
        refine am_iconst (q := 21) (v := iZ 3) C dX11_number_20 rfl rfl ?_
        refine am_iaddZ (q := 22) C dX11_number_21 rfl ?_
        refine am_icmpZ_ge (q := 25) (tgt := 64) C dX11_number_22 (by decide) rfl ⟨by omega, by omega⟩ ⟨by omega, by omega⟩ (fun c10 => ?_) (fun c10 => ?_)
        · refine am_aload_n (q := 65) C dX11_number_64 rfl rfl ?_
          refine am_aload_n (q := 66) C dX11_number_65 rfl rfl ?_
          refine am_getIe (q := 69) (v := (iZ 0)) C fb_X11_131 dX11_number_66 rfl rfl kk_191 (show 191 < 215 by decide) (h24.trans rfl) ?_
          refine am_ifZ_ne (q := 72) (tgt := 101) C dX11_number_69 (by decide) rfl ⟨by omega, by omega⟩ (fun c11 => ?_) (fun c11 => ?_)
          · exact absurd c11 (by decide)
          · refine am_aload_n (q := 73) C dX11_number_72 rfl rfl ?_
            refine am_getIe (q := 76) (v := (iZ (e : Int))) C fb_X11_122 dX11_number_73 rfl rfl kk_191 (show 191 < 215 by decide) h23 ?_
            refine am_aload_n (q := 77) C dX11_number_76 rfl rfl ?_
            refine am_getIe (q := 80) (v := (iZ (s : Int))) C fb_X11_125 dX11_number_77 rfl rfl kk_191 (show 191 < 215 by decide) h22 ?_
            refine am_icmpZ_eq (q := 83) (tgt := 101) C dX11_number_80 (by decide) rfl ⟨by omega, by omega⟩ ⟨by omega, by omega⟩ (fun c12 => ?_) (fun c12 => ?_)
            · refine am_iconst (q := 102) (v := iZ 1) C dX11_number_101 rfl rfl ?_
              refine am_goto (q := 106) C dX11_number_102 (by decide) ?_
              refine am_putZ (q := 109) C fw_X11_131 dX11_number_106 rfl rfl (Or.inr rfl) kk_191 (show 191 < 215 by decide) ?_
              refine am_aload_n (q := 110) C dX11_number_109 rfl rfl ?_
              refine am_getIe (q := 113) (v := (iZ 1)) C fb_X11_131 dX11_number_110 rfl rfl kk_191 (show 191 < 215 by decide) (by rw [am_up_eq]) ?_
              refine am_ifZ_ne (q := 116) (tgt := 120) C dX11_number_113 (by decide) rfl ⟨by omega, by omega⟩ (fun c13 => ?_) (fun c13 => ?_)
              · refine am_iload_n (q := 121) C dX11_number_120 rfl rfl ?_
                refine am_iret C T dX11_number_121 rfl (Nat.le_refl _) (Nat.le_refl _) ⟨_, rfl, ?_⟩
                have hrv : -200000 ≤ v ∧ v ≤ 200000 := by omega
                have hno : ¬ nbO n b s least := fun ⟨z1, z2⟩ => by
                  have y1 := (srt_2.mp z1).1
                  have y2 := hgt y1
                  rw [he] at z2
                  by_cases h9 : 2 < e - s
                  · unfold tkN at z2; rw [if_pos h9] at z2; omega
                  · have hv2 := hD z1 (by omega)
                    rw [show e - k = 0 by omega] at hv2
                    unfold tkN at z2; rw [if_neg h9, ← hv2] at z2
                    have : nmV b 0 k v = v := rfl
                    omega
                refine ⟨v, _, rfl, hrv, rfl, frP_up frP_refl, Or.inr ⟨hno, ?_⟩⟩
                refine ⟨(frP_up frP_refl).B hB, hsn, ?_, ?_, am_up_eq _ _ _ _⟩
                · rw [am_up_ne _ _ _ _ (Or.inr (by decide))]; exact h22
                · rw [am_up_ne _ _ _ _ (Or.inr (by decide)), he]; exact h23
              · exact absurd c13 (by decide)
            · refine am_aload_n (q := 84) C dX11_number_83 rfl rfl ?_
              refine am_getIe (q := 87) (v := (iZ (e : Int))) C fb_X11_122 dX11_number_84 rfl rfl kk_191 (show 191 < 215 by decide) h23 ?_
              refine am_aload_n (q := 88) C dX11_number_87 rfl rfl ?_
              refine am_getIe (q := 91) (v := (iZ (s : Int))) C fb_X11_125 dX11_number_88 rfl rfl kk_191 (show 191 < 215 by decide) h22 ?_
              refine am_isubZ (q := 92) C dX11_number_91 rfl ?_
              refine am_iconst (q := 93) (v := iZ 2) C dX11_number_92 rfl rfl ?_
              refine am_icmpZ_gt (q := 96) (tgt := 101) C dX11_number_93 (by decide) rfl ⟨by omega, by omega⟩ ⟨by omega, by omega⟩ (fun c14 => ?_) (fun c14 => ?_)
              · refine am_iconst (q := 102) (v := iZ 1) C dX11_number_101 rfl rfl ?_
                refine am_goto (q := 106) C dX11_number_102 (by decide) ?_
                refine am_putZ (q := 109) C fw_X11_131 dX11_number_106 rfl rfl (Or.inr rfl) kk_191 (show 191 < 215 by decide) ?_
                refine am_aload_n (q := 110) C dX11_number_109 rfl rfl ?_
                refine am_getIe (q := 113) (v := (iZ 1)) C fb_X11_131 dX11_number_110 rfl rfl kk_191 (show 191 < 215 by decide) (by rw [am_up_eq]) ?_
                refine am_ifZ_ne (q := 116) (tgt := 120) C dX11_number_113 (by decide) rfl ⟨by omega, by omega⟩ (fun c15 => ?_) (fun c15 => ?_)
                · refine am_iload_n (q := 121) C dX11_number_120 rfl rfl ?_
                  refine am_iret C T dX11_number_121 rfl (Nat.le_refl _) (Nat.le_refl _) ⟨_, rfl, ?_⟩
                  have hrv : -200000 ≤ v ∧ v ≤ 200000 := by omega
                  have hno : ¬ nbO n b s least := fun ⟨z1, z2⟩ => by
                    have y1 := (srt_2.mp z1).1
                    have y2 := hgt y1
                    rw [he] at z2
                    by_cases h9 : 2 < e - s
                    · unfold tkN at z2; rw [if_pos h9] at z2; omega
                    · have hv2 := hD z1 (by omega)
                      rw [show e - k = 0 by omega] at hv2
                      unfold tkN at z2; rw [if_neg h9, ← hv2] at z2
                      have : nmV b 0 k v = v := rfl
                      omega
                  refine ⟨v, _, rfl, hrv, rfl, frP_up frP_refl, Or.inr ⟨hno, ?_⟩⟩
                  refine ⟨(frP_up frP_refl).B hB, hsn, ?_, ?_, am_up_eq _ _ _ _⟩
                  · rw [am_up_ne _ _ _ _ (Or.inr (by decide))]; exact h22
                  · rw [am_up_ne _ _ _ _ (Or.inr (by decide)), he]; exact h23
                · exact absurd c15 (by decide)
              · refine am_iload_n (q := 97) C dX11_number_96 rfl rfl ?_
                refine am_iload_n (q := 98) C dX11_number_97 rfl rfl ?_
                refine am_icmpZ_ge (q := 101) (tgt := 105) C dX11_number_98 (by decide) rfl ⟨by omega, by omega⟩ ⟨by omega, by omega⟩ (fun c16 => ?_) (fun c16 => ?_)
                · refine am_iconst (q := 106) (v := iZ 0) C dX11_number_105 rfl rfl ?_
                  refine am_putZ (q := 109) C fw_X11_131 dX11_number_106 rfl rfl (Or.inl rfl) kk_191 (show 191 < 215 by decide) ?_
                  refine am_aload_n (q := 110) C dX11_number_109 rfl rfl ?_
                  refine am_getIe (q := 113) (v := (iZ 0)) C fb_X11_131 dX11_number_110 rfl rfl kk_191 (show 191 < 215 by decide) (by rw [am_up_eq]) ?_
                  refine am_ifZ_ne (q := 116) (tgt := 120) C dX11_number_113 (by decide) rfl ⟨by omega, by omega⟩ (fun c17 => ?_) (fun c17 => ?_)
                  · exact absurd c17 (by decide)
                  · refine am_aload_n (q := 117) C dX11_number_116 rfl rfl ?_
                    refine am_callV (q := 120) (As := []) (rest := []) C mb_X11_next im_X11_next se_X11_next ml_X11_139 cb_11 kk_191 (show 191 < 215 by decide) dX11_number_117 rfl (sp_X11_next ((frP_up frP_refl).B hB) hz.2 (by rw [am_up_ne _ _ _ _ (Or.inr (by decide))]; exact h23)) rfl rfl ⟨by decide, by decide⟩ ⟨Nat.le_refl _, Nat.le_refl _⟩ (Nat.le_of_ble_eq_true rfl) (am_rv (fun w' hw' => ?_))
                    obtain ⟨I1, rfl, n1, n2, n3⟩ := hw'
                    refine am_iload_n (q := 121) C dX11_number_120 rfl rfl ?_
                    refine am_iret C T dX11_number_121 rfl (Nat.le_refl _) (Nat.le_refl _) ⟨_, rfl, ?_⟩
                    have hrv : -200000 ≤ v ∧ v ≤ 200000 := by omega
                    have hd2 : srt n b s = 2 := by
                      by_cases e2 : srt n b s = 2
                      · exact e2
                      · have := hND e2 (by omega); omega
                    have hv2 := hD hd2 (by omega)
                    rw [show e - k = 0 by omega] at hv2
                    have hv3 : v = tkN b s (tkZ n b s) := by rw [he]; unfold tkN; rw [if_neg (by omega)]; exact hv2
                    have hok : nbO n b s least := ⟨hd2, by rw [← hv3]; omega⟩
                    refine ⟨v, _, rfl, hrv, rfl, frP_tr (frP_up frP_refl) n3.P, Or.inl ⟨hok, hv3, ?_⟩⟩
                    refine ⟨n3.P.B ((frP_up frP_refl).B hB), (nxP_le hsn).2, ?_, ?_, ?_⟩
                    · unfold nxP; rw [he]; exact n1
                    · unfold nxP; rw [he]; exact n2
                    · rw [n3.1 24 (by decide) (by decide)]; exact am_up_eq _ _ _ _
                · refine am_iconst (q := 102) (v := iZ 1) C dX11_number_101 rfl rfl ?_
                  refine am_goto (q := 106) C dX11_number_102 (by decide) ?_
                  refine am_putZ (q := 109) C fw_X11_131 dX11_number_106 rfl rfl (Or.inr rfl) kk_191 (show 191 < 215 by decide) ?_
                  refine am_aload_n (q := 110) C dX11_number_109 rfl rfl ?_
                  refine am_getIe (q := 113) (v := (iZ 1)) C fb_X11_131 dX11_number_110 rfl rfl kk_191 (show 191 < 215 by decide) (by rw [am_up_eq]) ?_
                  refine am_ifZ_ne (q := 116) (tgt := 120) C dX11_number_113 (by decide) rfl ⟨by omega, by omega⟩ (fun c18 => ?_) (fun c18 => ?_)
                  · refine am_iload_n (q := 121) C dX11_number_120 rfl rfl ?_
                    refine am_iret C T dX11_number_121 rfl (Nat.le_refl _) (Nat.le_refl _) ⟨_, rfl, ?_⟩
                    have hrv : -200000 ≤ v ∧ v ≤ 200000 := by omega
                    have hno : ¬ nbO n b s least := fun ⟨z1, z2⟩ => by
                      have y1 := (srt_2.mp z1).1
                      have y2 := hgt y1
                      rw [he] at z2
                      by_cases h9 : 2 < e - s
                      · unfold tkN at z2; rw [if_pos h9] at z2; omega
                      · have hv2 := hD z1 (by omega)
                        rw [show e - k = 0 by omega] at hv2
                        unfold tkN at z2; rw [if_neg h9, ← hv2] at z2
                        have : nmV b 0 k v = v := rfl
                        omega
                    refine ⟨v, _, rfl, hrv, rfl, frP_up frP_refl, Or.inr ⟨hno, ?_⟩⟩
                    refine ⟨(frP_up frP_refl).B hB, hsn, ?_, ?_, am_up_eq _ _ _ _⟩
                    · rw [am_up_ne _ _ _ _ (Or.inr (by decide))]; exact h22
                    · rw [am_up_ne _ _ _ _ (Or.inr (by decide)), he]; exact h23
                  · exact absurd c18 (by decide)
        · refine am_aload_n (q := 26) C dX11_number_25 rfl rfl ?_
          refine am_iload_n (q := 27) C dX11_number_26 rfl rfl ?_
          refine am_bipush (q := 29) (v := iZ 48) C dX11_number_27 rfl rfl ?_
          refine am_bipush (q := 31) (v := iZ 57) C dX11_number_29 rfl rfl ?_
          refine am_callV (q := 34) (As := [.int (iZ (k : Int)), .int (iZ 48), .int (iZ 57)]) (rest := []) C mb_X11_isAt im_X11_isAt se_X11_isAt ml_X11_128 cb_11 kk_191 (show 191 < 215 by decide) dX11_number_31 rfl (sp_X11_isAt hB (k := k) (by omega) (lo := 48) (hi := 57) ⟨by omega, by omega⟩ ⟨by omega, by omega⟩) rfl rfl ⟨by decide, by decide⟩ ⟨Nat.le_refl _, Nat.le_refl _⟩ (Nat.le_of_ble_eq_true rfl) (am_rie ?_)
          refine am_ifB_eq (q := 37) (tgt := 54) C dX11_number_34 (by decide) rfl (fun c19 => ?_) (fun c19 => ?_)
          · refine am_sipush (q := 57) (v := iZ (-1000)) C dX11_number_54 rfl rfl ?_
            refine am_istore_n (q := 58) (L' := [some (.ref 191), some (.int (iZ least)), some (.int (iZ (-1000))), some (.int (iZ (k : Int)))]) C dX11_number_57 rfl (by decide) rfl rfl ?_
            refine am_iincZ (q := 61) (L' := [some (.ref 191), some (.int (iZ least)), some (.int (iZ (-1000))), some (.int (iZ ((k + 1 : Nat) : Int)))]) C dX11_number_58 rfl rfl (by omega) (by decide) rfl rfl ?_
            refine am_goto (q := 7) C dX11_number_61 (by decide) ?_
            have hnd : ¬ srt n b k = 2 := fun z => by have := srt_2.mp z; omega
            have hns : ¬ srt n b s = 2 := fun z => hnd ((tk_srt (n := n) (b := b) (s := s) (j := k) (by omega) (by omega)).trans z)
            exact ih (k + 1) ((-1000)) ⟨by omega, by omega⟩ (by omega) (by omega) (by omega) (by omega) (fun z => absurd z hns) (fun _ _ => rfl) (by omega)
          · refine am_bipush (q := 39) (v := iZ 10) C dX11_number_37 rfl rfl ?_
            refine am_iload_n (q := 40) C dX11_number_39 rfl rfl ?_
            refine am_imulZ (q := 41) C dX11_number_40 rfl ?_
            refine am_aload_n (q := 42) C dX11_number_41 rfl rfl ?_
            refine am_getR (q := 45) C fb_X11_59 dX11_number_42 rfl rfl kk_191 (show 191 < 215 by decide) kr_191_20 ?_
            refine am_iload_n (q := 46) C dX11_number_45 rfl rfl ?_
            refine am_ialoadZ (q := 47) k C dX11_number_46 rfl kk_206 (show 206 < 215 by decide) rfl (by omega) (by decide) ?_
            refine am_intE (y := (iZ (b k : Int))) (hB.2.2 k (by omega)).1 ?_
            refine am_iaddZ (q := 48) C dX11_number_47 rfl ?_
            refine am_bipush (q := 50) (v := iZ 48) C dX11_number_48 rfl rfl ?_
            refine am_isubZ (q := 51) C dX11_number_50 rfl ?_
            refine am_goto (q := 57) C dX11_number_51 (by decide) ?_
            refine am_istore_n (q := 58) (L' := [some (.ref 191), some (.int (iZ least)), some (.int (iZ (10 * v + (b k : Int) - 48))), some (.int (iZ (k : Int)))]) C dX11_number_57 rfl (by decide) rfl rfl ?_
            refine am_iincZ (q := 61) (L' := [some (.ref 191), some (.int (iZ least)), some (.int (iZ (10 * v + (b k : Int) - 48))), some (.int (iZ ((k + 1 : Nat) : Int)))]) C dX11_number_58 rfl rfl (by omega) (by decide) rfl rfl ?_
            refine am_goto (q := 7) C dX11_number_61 (by decide) ?_
            have hkd : srt n b k = 2 := srt_2.mpr ⟨by omega, by omega, by omega⟩
            have hsd : srt n b s = 2 := (tk_srt (n := n) (b := b) (s := s) (j := k) (by omega) (by omega)).symm.trans hkd
            refine ih (k + 1) (10 * v + (b k : Int) - 48) ⟨by omega, by omega⟩ (by omega) (by omega) (by omega) (by omega) (fun _ h9 => ?_) (fun z => absurd hsd z) (by omega)
            rw [← hD hsd h9]
            obtain ⟨r, hr⟩ : ∃ r, e - k = r + 1 := ⟨e - k - 1, by omega⟩
            rw [hr, show e - (k + 1) = r by omega]
            have hsg : sg (b k) = b k := (sg_b (hB.2.2 k (by omega)).2).2.2.1 (by omega)
            show _ = nmV b r (k + 1) (10 * v + sg (b k) - 48)
            rw [hsg]
  refine am_iconst (q := 1) (v := iZ 0) C dX11_number_0 rfl rfl ?_
  refine am_istore_n (q := 2) (L' := [some (.ref 191), some (.int (iZ least)), some (.int (iZ 0)), none]) C dX11_number_1 rfl (by decide) rfl rfl ?_
  refine am_aload_n (q := 3) C dX11_number_2 rfl rfl ?_
  refine am_getIe (q := 6) (v := (iZ (s : Int))) C fb_X11_125 dX11_number_3 rfl rfl kk_191 (show 191 < 215 by decide) h22 ?_
  refine am_istore_n (q := 7) (L' := [some (.ref 191), some (.int (iZ least)), some (.int (iZ 0)), some (.int (iZ (s : Int)))]) C dX11_number_6 rfl (by decide) rfl rfl ?_
  exact lp (e - s + 1) s 0 ⟨by omega, by omega, by omega⟩ (fun _ => rfl) (by omega) (by omega) (by omega) (fun _ _ => rfl) (fun _ z => by omega) (by omega)
def upS (v : Int) : Nat := if 60 ≤ v then anyS else if v < 0 then 0 else 2 ^ (v.toNat + 1) - 1
def mls (n : Nat) : Nat → Nat → Nat → Nat
  | 0, _, acc => acc
  | f + 1, k, acc => if k ≤ 60 then mls n f (k + n) (acc ||| 2 ^ k) else acc
def mulS (v : Int) : Nat := if 0 < v then mls v.toNat 61 0 0 else 0
def isS (v : Int) : Nat := if 0 ≤ v ∧ v ≤ 60 then 2 ^ v.toNat else 0
theorem upS_lt (v : Int) : upS v < 2 ^ 61 := by
  unfold upS
  split
  · decide
  · split
    · decide
    · have := Nat.pow_le_pow_right (show 0 < 2 by decide) (show v.toNat + 1 ≤ 60 by omega)
      omega
theorem set_up : ∀ n : Nat, n < 100 → setN (fun k => psR 0 k n) 61 = upS n := by decide +kernel
theorem set_least : ∀ n : Nat, n < 100 → setN (fun k => psR 1 k n) 61 = anyS - upS ((n : Int) - 1) := by decide +kernel
theorem set_by : ∀ n : Nat, n < 100 → 0 < n → setN (fun k => psR 2 k n) 61 = mulS n := by decide +kernel
theorem set_is : ∀ n : Nat, n < 100 → setN (fun k => psR 3 k n) 61 = isS n := by decide +kernel
set_option maxRecDepth 4000 in
theorem sp_X11_upTo {v : Int} (hv : rg v) : am_S G mX11_upTo 1 0 0 [.int (iZ v)] (215, kK, kR, I, J) (am_fl (lN (upS v)) (215, kK, kR, I, J)) := by
  refine am_spec (plainFor_of_name (by decide +kernel)) (Nat.le_of_ble_eq_true rfl) (L := [some (.int (iZ v))]) rfl (fun X C T => ?_)
  refine am_iload_n (q := 1) C dX11_upTo_0 rfl rfl ?_
  refine am_bipush (q := 3) (v := iZ 60) C dX11_upTo_1 rfl rfl ?_
  refine am_icmpZ_lt (q := 6) (tgt := 12) C dX11_upTo_3 (by decide) rfl hv ⟨by omega, by omega⟩ (fun c1 => ?_) (fun c1 => ?_)
  · refine am_iload_n (q := 13) C dX11_upTo_12 rfl rfl ?_
    refine am_ifZ_ge (q := 16) (tgt := 20) C dX11_upTo_13 (by decide) rfl hv (fun c2 => ?_) (fun c2 => ?_)
    · refine am_lconst (q := 21) (v := lN 1) C dX11_upTo_20 rfl rfl ?_
      refine am_iload_n (q := 22) C dX11_upTo_21 rfl rfl ?_
      refine am_iconst (q := 23) (v := iZ 1) C dX11_upTo_22 rfl rfl ?_
      refine am_iaddZ (q := 24) C dX11_upTo_23 rfl ?_
      refine am_intE (y := (iZ ((v.toNat + 1 : Nat) : Int))) (congrArg iZ (by omega)) ?_
      refine am_lshl (q := 25) C dX11_upTo_24 rfl ?_
      refine am_longE (y := (lN (2 ^ (v.toNat + 1)))) (shl_one (by omega)) ?_
      refine am_lconst (q := 26) (v := lN 1) C dX11_upTo_25 rfl rfl ?_
      refine am_lsub (q := 27) C dX11_upTo_26 rfl ?_
      refine am_longE (y := (lN (2 ^ (v.toNat + 1) - 1))) (lN_sub1 (Nat.one_le_two_pow)) ?_
      refine am_lret C T dX11_upTo_27 rfl (Nat.le_refl _) (Nat.le_refl _) ⟨_, rfl, ?_⟩
      refine ⟨?_, rfl⟩
      unfold upS
      first | (rw [if_pos (by omega)]; rfl) | (rw [if_neg (by omega), if_pos (by omega)]) | (rw [if_neg (by omega), if_neg (by omega)])
    · refine am_lconst (q := 17) (v := lN 0) C dX11_upTo_16 rfl rfl ?_
      refine am_goto (q := 27) C dX11_upTo_17 (by decide) ?_
      refine am_lret C T dX11_upTo_27 rfl (Nat.le_refl _) (Nat.le_refl _) ⟨_, rfl, ?_⟩
      refine ⟨?_, rfl⟩
      unfold upS
      first | (rw [if_pos (by omega)]; rfl) | (rw [if_neg (by omega), if_pos (by omega)]) | (rw [if_neg (by omega), if_neg (by omega)])
  · refine am_ldc2 (q := 9) C dX11_upTo_6 rfl ck_X11_99 ?_
    refine am_longE (y := lN 2305843009213693951) rfl ?_
    refine am_goto (q := 27) C dX11_upTo_9 (by decide) ?_
    refine am_lret C T dX11_upTo_27 rfl (Nat.le_refl _) (Nat.le_refl _) ⟨_, rfl, ?_⟩
    refine ⟨?_, rfl⟩
    unfold upS
    first | (rw [if_pos (by omega)]; rfl) | (rw [if_neg (by omega), if_pos (by omega)]) | (rw [if_neg (by omega), if_neg (by omega)])
set_option maxRecDepth 4000 in
theorem sp_X11_multiples {v : Int} (hv : rg v) (hv2 : v ≤ 200000) : am_S G mX11_multiples 1 0 0 [.int (iZ v)] (215, kK, kR, I, J) (am_fl (lN (mulS v)) (215, kK, kR, I, J)) := by
  refine am_spec (plainFor_of_name (by decide +kernel)) (Nat.le_of_ble_eq_true rfl) (L := [some (.int (iZ v)), none, none, none]) rfl (fun X C T => ?_)
  have lp : ∀ (fuel : Nat) (k : Nat) (acc : Nat), (k < 2147483648) → (acc < 2 ^ 61) → ((0 < v ∧ ∃ f : Nat, 61 - k ≤ f ∧ mls v.toNat f k acc = mls v.toNat 61 0 0) ∨ (v ≤ 0 ∧ acc = 0)) → (61 - k) < fuel → am_A G mX11_multiples X (am_rm 1 0 0) 4 [some (.int (iZ v)), some (.long (lN acc)), none, some (.int (iZ (k : Int)))] [] (215, kK, kR, I, J) 0 0 := by
    intro fuel
    induction fuel with
    | zero => intro k acc hk ha hI hf; exact absurd hf (Nat.not_lt_zero _)
    | succ fuel ih =>
      intro k acc hk ha hI hf
      refine am_iload_n (q := 5) C dX11_multiples_4 rfl rfl ?_
      refine am_bipush (q := 7) (v := iZ 60) C dX11_multiples_5 rfl rfl ?_
      refine am_icmpZ_gt (q := 10) (tgt := 27) C dX11_multiples_7 (by decide) rfl ⟨by omega, by omega⟩ ⟨by omega, by omega⟩ (fun c1 => ?_) (fun c1 => ?_)
      · refine am_lload_n (q := 28) C dX11_multiples_27 rfl rfl ?_
        refine am_lret C T dX11_multiples_28 rfl (Nat.le_refl _) (Nat.le_refl _) ⟨_, rfl, ?_⟩
        refine ⟨congrArg lN ?_, rfl⟩
        rcases hI with ⟨i1, f, i2, i3⟩ | ⟨i1, i2⟩
        · unfold mulS; rw [if_pos i1, ← i3]
          cases f with
          | zero => rfl
          | succ f => show _ = (if k ≤ 60 then _ else acc); rw [if_neg (by omega)]
        · unfold mulS; rw [if_neg (by omega)]; exact i2
      · refine am_iload_n (q := 11) C dX11_multiples_10 rfl rfl ?_
        refine am_ifZ_le (q := 14) (tgt := 27) C dX11_multiples_11 (by decide) rfl hv (fun c2 => ?_) (fun c2 => ?_)
        · refine am_lload_n (q := 28) C dX11_multiples_27 rfl rfl ?_
          refine am_lret C T dX11_multiples_28 rfl (Nat.le_refl _) (Nat.le_refl _) ⟨_, rfl, ?_⟩
          refine ⟨congrArg lN ?_, rfl⟩
          rcases hI with ⟨i1, f, i2, i3⟩ | ⟨i1, i2⟩
          · unfold mulS; rw [if_pos i1, ← i3]
            cases f with
            | zero => rfl
            | succ f => show _ = (if k ≤ 60 then _ else acc); rw [if_neg (by omega)]
          · unfold mulS; rw [if_neg (by omega)]; exact i2
        · refine am_lload_n (q := 15) C dX11_multiples_14 rfl rfl ?_
          refine am_lconst (q := 16) (v := lN 1) C dX11_multiples_15 rfl rfl ?_
          refine am_iload_n (q := 17) C dX11_multiples_16 rfl rfl ?_
          refine am_lshl (q := 18) C dX11_multiples_17 rfl ?_
          refine am_longE (y := (lN (2 ^ k))) (shl_one (by omega)) ?_
          refine am_lor (q := 19) C dX11_multiples_18 rfl ?_
          refine am_longE (y := (lN (acc ||| 2 ^ k))) (wb_or (by omega) (Nat.pow_lt_pow_right (by decide) (by omega))) ?_
          refine am_lstore_n (q := 20) (L' := [some (.int (iZ v)), some (.long (lN (acc ||| 2 ^ k))), none, some (.int (iZ (k : Int)))]) C dX11_multiples_19 rfl (by decide) rfl rfl ?_
          refine am_iload_n (q := 21) C dX11_multiples_20 rfl rfl ?_
          refine am_iload_n (q := 22) C dX11_multiples_21 rfl rfl ?_
          refine am_iaddZ (q := 23) C dX11_multiples_22 rfl ?_
          refine am_intE (y := (iZ ((k + v.toNat : Nat) : Int))) (congrArg iZ (by omega)) ?_
          refine am_istore_n (q := 24) (L' := [some (.int (iZ v)), some (.long (lN (acc ||| 2 ^ k))), none, some (.int (iZ ((k + v.toNat : Nat) : Int)))]) C dX11_multiples_23 rfl (by decide) rfl rfl ?_
          refine am_goto (q := 4) C dX11_multiples_24 (by decide) ?_
          rcases hI with ⟨i1, f, i2, i3⟩ | ⟨i1, i2⟩
          · obtain ⟨f, rfl⟩ : ∃ q, f = q + 1 := ⟨f - 1, by omega⟩
            have i4 : mls v.toNat (f + 1) k acc = mls v.toNat f (k + v.toNat) (acc ||| 2 ^ k) := by show (if _ then _ else _) = _; rw [if_pos (by omega)]
            exact ih (k + v.toNat) (acc ||| 2 ^ k) (by omega) (Nat.or_lt_two_pow ha (Nat.pow_lt_pow_right (by decide) (by omega))) (Or.inl ⟨i1, f, by omega, i4 ▸ i3⟩) (by omega)
          · omega
  refine am_lconst (q := 1) (v := lN 0) C dX11_multiples_0 rfl rfl ?_
  refine am_lstore_n (q := 2) (L' := [some (.int (iZ v)), some (.long (lN 0)), none, none]) C dX11_multiples_1 rfl (by decide) rfl rfl ?_
  refine am_iconst (q := 3) (v := iZ 0) C dX11_multiples_2 rfl rfl ?_
  refine am_istore_n (q := 4) (L' := [some (.int (iZ v)), some (.long (lN 0)), none, some (.int (iZ 0))]) C dX11_multiples_3 rfl (by decide) rfl rfl ?_
  refine lp 62 0 0 (by decide) (by decide) ?_ (by decide)
  by_cases h1 : 0 < v
  · exact Or.inl ⟨h1, 61, by decide, rfl⟩
  · exact Or.inr ⟨by omega, rfl⟩
