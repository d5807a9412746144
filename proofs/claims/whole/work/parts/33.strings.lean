section AM
variable {G : am_G} {M M' : am_M} {X : am_X} {R : Room} {pc q idx na d mc ms : Nat} {L : List (Option Value)} {st rest As : List Value} {w : am_W} {c n : Nat} {Q : Option Value → am_W → Prop}
theorem am_rfK {G : am_G} (i : Nat) : am_rf G (1000000 + i) = G.2.2.2.1 i := by
  unfold am_rf
  rw [if_neg (by omega), show 1000000 + i - 1000000 = i by omega]
theorem am_ldcS {i : Nat} {tx : String} (C : am_C G M X) (hM : M.1.cls = "VectorWays$RuleReader") (hi : am_sk[i]? = some (idx, tx)) (hd : decode M.2.1 pc = .ok (.ldc idx, 2)) (hq : pc + 2 = q) (k : am_A G M X R q L (.ref (1000000 + i) :: st) w c n) : am_A G M X R pc L st w c n := by
  subst hq
  intro H locs ls hH hL hS
  have k9 := k H locs ls hH hL hS
  have e1 : ((Value.ref (1000000 + i) :: st).map (am_cv G)) = .ref (G.2.2.2.1 i) :: st.map (am_cv G) := by
    show Value.ref (am_rf G (1000000 + i)) :: _ = _
    rw [am_rfK]
  rw [e1] at k9
  exact va_ldcS C.1 C.2.1 (hM ▸ C.2.2.2.2.1) (C.2.2.2.2.2.2.2.1.2.2.2.2.2.1 i _ hi) hd k9
theorem am_kS (C : am_C G M X) : vk_S 10 am_len am_byt (fun i => G.2.2.2.1 i) (fun i => G.2.2.2.1 (10 + i)) (am_F G) (am_s X) (am_s X).heap := C.2.2.2.2.2.2.2.1.2.2.2.2.1
theorem am_getKv {i : Nat} (C : am_C G M X) (hi : i < 10) (hl : Cond.fieldLink M.1.cls idx "java/lang/String" "value" "[B" ∈ am_ws) (hd : decode M.2.1 pc = .ok (.getfield idx, 3)) (hq : pc + 3 = q) (k : am_A G M X R q L (.ref (1000000 + (10 + i)) :: st) w c n) : am_A G M X R pc L (.ref (1000000 + i) :: st) w c n := by
  subst hq
  intro H locs ls hH hL hS
  have k9 := k H locs ls hH hL hS
  have e1 : ∀ z, ((Value.ref (1000000 + z) :: st).map (am_cv G)) = .ref (G.2.2.2.1 z) :: st.map (am_cv G) := by
    intro z
    show Value.ref (am_rf G (1000000 + z)) :: _ = _
    rw [am_rfK]
  rw [e1] at k9 ⊢
  exact vk_getf C.1 C.2.1 ((am_kS C).1 i hi).2.2.1 hS C.2.2.2.2.1 (C.2.2.2.2.2.1 _ hl) (fun x h => h) hd k9
theorem am_getKc {i : Nat} (C : am_C G M X) (hi : i < 10) (hl : Cond.fieldLink M.1.cls idx "java/lang/String" "coder" "B" ∈ am_ws) (hd : decode M.2.1 pc = .ok (.getfield idx, 3)) (hq : pc + 3 = q) (k : am_A G M X R q L (.int 0 :: st) w c n) : am_A G M X R pc L (.ref (1000000 + i) :: st) w c n := by
  subst hq
  intro H locs ls hH hL hS
  have k9 := k H locs ls hH hL hS
  have e1 : ((Value.ref (1000000 + i) :: st).map (am_cv G)) = .ref (G.2.2.2.1 i) :: st.map (am_cv G) := by
    show Value.ref (am_rf G (1000000 + i)) :: _ = _
    rw [am_rfK]
  rw [e1]
  exact vk_getf C.1 C.2.1 ((am_kS C).1 i hi).2.1 hS C.2.2.2.2.1 (C.2.2.2.2.2.1 _ hl) (fun x h => h) hd k9
theorem am_alenK {i : Nat} (C : am_C G M X) (hi : i < 10) (hd : decode M.2.1 pc = .ok (.arraylength, 1)) (hq : pc + 1 = q) (k : am_A G M X R q L (.int (iZ (am_len.getD i 0 : Nat)) :: st) w c n) : am_A G M X R pc L (.ref (1000000 + (10 + i)) :: st) w c n := by
  subst hq
  intro H locs ls hH hL hS
  have k9 := k H locs ls hH hL hS
  have e1 : ((Value.ref (1000000 + (10 + i)) :: st).map (am_cv G)) = .ref (G.2.2.2.1 (10 + i)) :: st.map (am_cv G) := by
    show Value.ref (am_rf G (1000000 + (10 + i))) :: _ = _
    rw [am_rfK]
  rw [e1]
  exact va_tlen C.1 C.2.1 ((am_kS C).1 i hi).2.2.2 hS (by rw [← iZ_nI]; rfl) hd k9
theorem am_baloadK {i j : Nat} (C : am_C G M X) (hi : i < 10) (hj : j < am_len.getD i 0) (hd : decode M.2.1 pc = .ok (.baload, 1)) (hq : pc + 1 = q) (k : am_A G M X R q L (.int ((am_byt.getD i []).getD j 0) :: st) w c n) : am_A G M X R pc L (.int (iZ (j : Int)) :: .ref (1000000 + (10 + i)) :: st) w c n := by
  subst hq
  intro H locs ls hH hL hS
  have k9 := k H locs ls hH hL hS
  have e1 : ((Value.int (iZ (j : Int)) :: Value.ref (1000000 + (10 + i)) :: st).map (am_cv G)) = .int (iZ (j : Int)) :: .ref (G.2.2.2.1 (10 + i)) :: st.map (am_cv G) := by
    show _ :: Value.ref (am_rf G (1000000 + (10 + i))) :: _ = _
    rw [am_rfK]; rfl
  rw [e1]
  have hl5 : am_len.getD i 0 ≤ 5 := (show ∀ i, i < 10 → am_len.getD i 0 ≤ 5 by decide) i hi
  exact va_tb C.1 C.2.1 ((am_kS C).1 i hi).2.2.2 hS (iZ_in (by omega) (by omega) (by omega)) (v := .int ((am_byt.getD i []).getD j 0)) (by show Value.int ((am_byt.getD i []).getD (iZ (j : Int)).toNatClampNeg 0) = _; rw [iZ_clN rfl (by omega)]) hd k9
theorem am_getsB (C : am_C G M X) (hl : Cond.fieldLink M.1.cls idx "java/lang/String" "COMPACT_STRINGS" "Z" ∈ am_ws) (hd : decode M.2.1 pc = .ok (.getstatic idx, 3)) (hq : pc + 3 = q) (k : am_A G M X R q L (.int (iZ 1) :: st) w c n) : am_A G M X R pc L st w c n := by
  subst hq
  intro H locs ls hH hL hS
  exact va_gets C.1 C.2.1 C.2.2.2.2.2.2.2.1.2.2.2.2.2.2.1 hS C.2.2.2.2.1 (C.2.2.2.2.2.1 _ hl) (fun x h => h) hd (k H locs ls hH hL hS)
theorem am_getsF (C : am_C G M X) (hl : Cond.fieldLink M.1.cls idx "jdk/internal/util/Preconditions" "SIOOBE_FORMATTER" "Ljava/util/function/BiFunction;" ∈ am_ws) (hd : decode M.2.1 pc = .ok (.getstatic idx, 3)) (hq : pc + 3 = q) (k1 : am_A G M X R q L (.null :: st) w c n) (k2 : am_A G M X R q L (.ref 1000020 :: st) w c n) : am_A G M X R pc L st w c n := by
  subst hq
  intro H locs ls hH hL hS
  rcases C.2.2.2.2.2.2.2.1.2.2.2.2.2.2.2.2 with e | e
  · exact va_gets C.1 C.2.1 C.2.2.2.2.2.2.2.1.2.2.2.2.2.2.2.1 hS C.2.2.2.2.1 (C.2.2.2.2.2.1 _ hl) (fun x h => h) hd (by rw [e]; exact k1 H locs ls hH hL hS)
  · exact va_gets C.1 C.2.1 C.2.2.2.2.2.2.2.1.2.2.2.2.2.2.2.1 hS C.2.2.2.2.1 (C.2.2.2.2.2.1 _ hl) (fun x h => h) hd (by rw [e]; exact k2 H locs ls hH hL hS)
/-- a method of a String constant -/
theorem am_callK {i : Nat} (C : am_C G M X) (B : am_MB M' na) (hcl : M'.1.cls = "java/lang/String") (hi : Cond.instanceMethod M'.1 ∈ am_ws) (hse : Cond.selects M'.1.cls M'.1 M'.1 ∈ am_ws) (hl : Cond.methodLink M.1.cls idx M'.1 ∈ am_ws) (hi10 : i < 10) (hd : decode M.2.1 pc = .ok (.invokevirtual idx, 3)) (hq : pc + 3 = q) (sp : am_S G M' d mc ms (.ref (1000000 + i) :: As) w Q) (hst : st = As.reverse ++ .ref (1000000 + i) :: rest) (hna : As.length = na) (hR : d + 1 ≤ R.frames ∧ 64 * (d + 1) ≤ R.locals) (hf : c + mc ≤ R.cells ∧ n + ms ≤ R.slots) (hsum : (rest.map fun v => v.category).sum ≤ 8)
    (kk : ∀ (r : Option Value) (w' : am_W), Q r w' → am_A G M X R q L (r.toList ++ rest) w' (c + mc) (n + ms)) : am_A G M X R pc L st w c n := by
  subst hq; subst hst
  intro H locs ls hH hL hS
  have hts := C.2.2.2.2.2.1
  have hB : CallB R (am_s X) X.2.2.2.2.2.1 M.1.cls idx M'.1 M'.2.1 M'.2.2.1 M'.2.2.2 (Cond.code M'.1 M'.2.1 M'.2.2.1 M'.2.2.2 :: am_ws) (am_rm d mc ms) mc ms na := callB_of na hts (am_gin B) rfl rfl rfl (hts _ B.2.1) (hts _ hl) B.2.2.1 ⟨hR.1, by have := B.2.2.2.1; show 8 + (M'.2.2.1 + 11) + 64 * d ≤ _; omega⟩
  have hrec : ∃ cell : Cell, H[G.2.2.2.1 i]? = some cell ∧ cell.vm.isStatics = false ∧ (am_s X).vm.findClass M'.1.cls = some cell.cls := by
    rw [hcl]; exact vk_recv (am_kS C) hi10 hS
  have erf : am_cv G (.ref (1000000 + i)) = .ref (G.2.2.2.1 i) := by show Value.ref (am_rf G _) = _; rw [am_rfK]
  exact am_back (a := (Value.ref (G.2.2.2.1 i) :: As.map (am_cv G)).toArray) (va_runV (b := G.2.2.2.1 i) (As := As.map (am_cv G)) ⟨C.1, C.2.1, C.2.2.2.1, C.2.2.2.2.1, hts⟩ (sp X.2.1) ⟨hB, hts _ hi, hts _ hse⟩ ⟨am_blind, hrec, fun U hU hW => by rw [← erf]; exact am_pre C hH hS U hU hW⟩ rfl (by rw [List.length_map]; exact hna) hL.1 (by show ((As.reverse ++ Value.ref (1000000 + i) :: rest).map (am_cv G)) = _; rw [am_stk, erf]) (lv_room (by rw [am_catsum]; exact hsum)) hd hf) hL hS kk
end AM
variable {G : am_G} {I : Nat → Nat → Int32} {J : Nat → Nat → Int64}
/-- the words of the language, by their letters -/
def wdN : List (List Nat) := [[110, 111, 116], [97, 110, 121], [40], [109, 111, 115, 116], [108, 101, 97, 115, 116], [98, 121], [105, 115], [97, 110, 100], [111, 114], [41]]
abbrev wdL (i : Nat) : Nat := am_len.getD i 0
abbrev wdB (i j : Nat) : Nat := (wdN.getD i []).getD j 0
theorem wd_ok : ∀ i, i < 10 → wdL i ≤ 5 ∧ ∀ j, j < wdL i → (am_byt.getD i []).getD j 0 = iZ (wdB i j : Int) ∧ wdB i j < 128 := by decide +kernel
theorem wd_and : ∀ z : Nat, z < 128 → ((iZ (z : Int)) &&& (iZ 255)) = iZ (z : Int) ∧ ((iZ (z : Int)).toUInt32 % 65536).toInt32 = iZ (z : Int) ∧ narrow .char (.int (iZ (z : Int))) = .int (iZ (z : Int)) := by decide +kernel
set_option maxRecDepth 4000 in
theorem sp_coder {i : Nat} (hi : i < 10) : am_S G mJ0_coder_7d493 1 0 0 [.ref (1000000 + i)] (215, kK, kR, I, J) (am_fi (iZ 0) (215, kK, kR, I, J)) := by
  refine am_spec (plainFor_of_name (by decide +kernel)) (Nat.le_of_ble_eq_true rfl) (L := [some (.ref (1000000 + i))]) rfl (fun X C T => ?_)
  refine am_getsB (q := 3) C fj_J0_38 dJ0_coder_7d493_0 rfl ?_
  refine am_ifZ_eq (q := 6) (tgt := 13) C dJ0_coder_7d493_3 (by decide) rfl ⟨by omega, by omega⟩ (fun c1 => ?_) (fun c1 => ?_)
  · exact absurd c1 (by decide)
  · refine am_aload_n (q := 7) C dJ0_coder_7d493_6 rfl rfl ?_
    refine am_getKc (q := 10) C hi fj_J0_15 dJ0_coder_7d493_7 rfl ?_
    refine am_intE (y := iZ 0) rfl ?_
    refine am_goto (q := 14) C dJ0_coder_7d493_10 (by decide) ?_
    refine am_zret C T dJ0_coder_7d493_14 rfl rfl (Nat.le_refl _) (Nat.le_refl _) ⟨_, rfl, ?_⟩
    exact ⟨rfl, rfl⟩
set_option maxRecDepth 4000 in
theorem sp_isLatin1 {i : Nat} (hi : i < 10) : am_S G mJ0_isLatin1_aae02 1 0 0 [.ref (1000000 + i)] (215, kK, kR, I, J) (am_fi 1 (215, kK, kR, I, J)) := by
  refine am_spec (plainFor_of_name (by decide +kernel)) (Nat.le_of_ble_eq_true rfl) (L := [some (.ref (1000000 + i))]) rfl (fun X C T => ?_)
  refine am_getsB (q := 3) C fj_J0_38 dJ0_isLatin1_aae02_0 rfl ?_
  refine am_ifZ_eq (q := 6) (tgt := 17) C dJ0_isLatin1_aae02_3 (by decide) rfl ⟨by omega, by omega⟩ (fun c1 => ?_) (fun c1 => ?_)
  · exact absurd c1 (by decide)
  · refine am_aload_n (q := 7) C dJ0_isLatin1_aae02_6 rfl rfl ?_
    refine am_getKc (q := 10) C hi fj_J0_15 dJ0_isLatin1_aae02_7 rfl ?_
    refine am_intE (y := iZ 0) rfl ?_
    refine am_ifZ_ne (q := 13) (tgt := 17) C dJ0_isLatin1_aae02_10 (by decide) rfl ⟨by omega, by omega⟩ (fun c2 => ?_) (fun c2 => ?_)
    · exact absurd c2 (by decide)
    · refine am_iconst (q := 14) (v := iZ 1) C dJ0_isLatin1_aae02_13 rfl rfl ?_
      refine am_goto (q := 18) C dJ0_isLatin1_aae02_14 (by decide) ?_
      refine am_zretB (b := true) C T dJ0_isLatin1_aae02_18 rfl (Nat.le_refl _) (Nat.le_refl _) rfl ⟨_, rfl, ?_⟩
      exact ⟨rfl, rfl⟩
theorem wd_shr : ∀ i, i < 10 → jshr (iZ (wdL i : Int)) (iZ 0) = iZ (wdL i : Int) := by decide +kernel
set_option maxRecDepth 4000 in
theorem sp_strLength {i : Nat} (hi : i < 10) : am_S G mJ0_length_8abf5 2 0 0 [.ref (1000000 + i)] (215, kK, kR, I, J) (am_fi (iZ (wdL i : Int)) (215, kK, kR, I, J)) := by
  refine am_spec (plainFor_of_name (by decide +kernel)) (Nat.le_of_ble_eq_true rfl) (L := [some (.ref (1000000 + i))]) rfl (fun X C T => ?_)
  refine am_aload_n (q := 1) C dJ0_length_8abf5_0 rfl rfl ?_
  refine am_getKv (q := 4) C hi fj_J0_9 dJ0_length_8abf5_1 rfl ?_
  refine am_alenK (q := 5) C hi dJ0_length_8abf5_4 rfl ?_
  refine am_aload_n (q := 6) C dJ0_length_8abf5_5 rfl rfl ?_
  refine am_callK (q := 9) (i := i) (As := []) (rest := [.int (iZ (wdL i : Int))]) C mb_J0_coder_7d493 rfl im_J0_coder_7d493 se_J0_coder_7d493 ml_J0_335 hi dJ0_length_8abf5_6 rfl (sp_coder hi) rfl rfl ⟨by decide, by decide⟩ ⟨Nat.le_refl _, Nat.le_refl _⟩ (Nat.le_of_ble_eq_true rfl) (am_rie ?_)
  refine am_ishr (q := 10) C dJ0_length_8abf5_9 rfl ?_
  refine am_iret C T dJ0_length_8abf5_10 rfl (Nat.le_refl _) (Nat.le_refl _) ⟨_, rfl, ?_⟩
  refine ⟨?_, rfl⟩
  exact wd_shr _ hi
set_option maxRecDepth 4000 in
theorem sp_checkIndexN {j k : Nat} (hj : j < k) (hk : k < 1000) : am_S G mJ3_checkIndex_8e157 1 0 0 [.int (iZ (j : Int)), .int (iZ (k : Int)), .null] (215, kK, kR, I, J) (am_fi (iZ (j : Int)) (215, kK, kR, I, J)) := by
  refine am_spec (plainFor_of_name (by decide +kernel)) (Nat.le_of_ble_eq_true rfl) (L := [some (.int (iZ (j : Int))), some (.int (iZ (k : Int))), some (.null)]) rfl (fun X C T => ?_)
  refine am_iload_n (q := 1) C dJ3_checkIndex_8e157_0 rfl rfl ?_
  refine am_ifZ_lt (q := 4) (tgt := 9) C dJ3_checkIndex_8e157_1 (by decide) rfl ⟨by omega, by omega⟩ (fun c1 => ?_) (fun c1 => ?_)
  · exfalso; omega
  · refine am_iload_n (q := 5) C dJ3_checkIndex_8e157_4 rfl rfl ?_
    refine am_iload_n (q := 6) C dJ3_checkIndex_8e157_5 rfl rfl ?_
    refine am_icmpZ_lt (q := 9) (tgt := 16) C dJ3_checkIndex_8e157_6 (by decide) rfl ⟨by omega, by omega⟩ ⟨by omega, by omega⟩ (fun c2 => ?_) (fun c2 => ?_)
    · refine am_iload_n (q := 17) C dJ3_checkIndex_8e157_16 rfl rfl ?_
      refine am_iret C T dJ3_checkIndex_8e157_17 rfl (Nat.le_refl _) (Nat.le_refl _) ⟨_, rfl, ?_⟩
      exact ⟨rfl, rfl⟩
    · exfalso; omega
set_option maxRecDepth 4000 in
theorem sp_checkIndexR {j k : Nat} (hj : j < k) (hk : k < 1000) : am_S G mJ3_checkIndex_8e157 1 0 0 [.int (iZ (j : Int)), .int (iZ (k : Int)), .ref 1000020] (215, kK, kR, I, J) (am_fi (iZ (j : Int)) (215, kK, kR, I, J)) := by
  refine am_spec (plainFor_of_name (by decide +kernel)) (Nat.le_of_ble_eq_true rfl) (L := [some (.int (iZ (j : Int))), some (.int (iZ (k : Int))), some (.ref 1000020)]) rfl (fun X C T => ?_)
  refine am_iload_n (q := 1) C dJ3_checkIndex_8e157_0 rfl rfl ?_
  refine am_ifZ_lt (q := 4) (tgt := 9) C dJ3_checkIndex_8e157_1 (by decide) rfl ⟨by omega, by omega⟩ (fun c1 => ?_) (fun c1 => ?_)
  · exfalso; omega
  · refine am_iload_n (q := 5) C dJ3_checkIndex_8e157_4 rfl rfl ?_
    refine am_iload_n (q := 6) C dJ3_checkIndex_8e157_5 rfl rfl ?_
    refine am_icmpZ_lt (q := 9) (tgt := 16) C dJ3_checkIndex_8e157_6 (by decide) rfl ⟨by omega, by omega⟩ ⟨by omega, by omega⟩ (fun c2 => ?_) (fun c2 => ?_)
    · refine am_iload_n (q := 17) C dJ3_checkIndex_8e157_16 rfl rfl ?_
      refine am_iret C T dJ3_checkIndex_8e157_17 rfl (Nat.le_refl _) (Nat.le_refl _) ⟨_, rfl, ?_⟩
      exact ⟨rfl, rfl⟩
    · exfalso; omega
set_option maxRecDepth 4000 in
theorem sp_strCheckIndex {j k : Nat} (hj : j < k) (hk : k < 1000) : am_S G mJ0_checkIndex_df160 2 0 0 [.int (iZ (j : Int)), .int (iZ (k : Int))] (215, kK, kR, I, J) (am_fv (215, kK, kR, I, J)) := by
  refine am_spec (plainFor_of_name (by decide +kernel)) (Nat.le_of_ble_eq_true rfl) (L := [some (.int (iZ (j : Int))), some (.int (iZ (k : Int)))]) rfl (fun X C T => ?_)
  refine am_iload_n (q := 1) C dJ0_checkIndex_df160_0 rfl rfl ?_
  refine am_iload_n (q := 2) C dJ0_checkIndex_df160_1 rfl rfl ?_
  refine am_getsF (q := 5) C fj_J0_1053 dJ0_checkIndex_df160_2 rfl ?_ ?_
  · refine am_callS (q := 8) (As := [.int (iZ (j : Int)), .int (iZ (k : Int)), .null]) (rest := []) C mb_J3_checkIndex_8e157 st_J3_checkIndex_8e157 ml_J0_1059 dJ0_checkIndex_df160_5 rfl (sp_checkIndexN hj hk) rfl rfl ⟨by decide, by decide⟩ ⟨Nat.le_refl _, Nat.le_refl _⟩ (Nat.le_of_ble_eq_true rfl) (am_rie ?_)
    refine am_pop (q := 9) C dJ0_checkIndex_df160_8 rfl rfl ?_
    refine am_vret C T dJ0_checkIndex_df160_9 rfl (Nat.le_refl _) (Nat.le_refl _) ⟨rfl, ?_⟩
    rfl
  · refine am_callS (q := 8) (As := [.int (iZ (j : Int)), .int (iZ (k : Int)), .ref 1000020]) (rest := []) C mb_J3_checkIndex_8e157 st_J3_checkIndex_8e157 ml_J0_1059 dJ0_checkIndex_df160_5 rfl (sp_checkIndexR hj hk) rfl rfl ⟨by decide, by decide⟩ ⟨Nat.le_refl _, Nat.le_refl _⟩ (Nat.le_of_ble_eq_true rfl) (am_rie ?_)
    refine am_pop (q := 9) C dJ0_checkIndex_df160_8 rfl rfl ?_
    refine am_vret C T dJ0_checkIndex_df160_9 rfl (Nat.le_refl _) (Nat.le_refl _) ⟨rfl, ?_⟩
    rfl
set_option maxRecDepth 4000 in
theorem sp_lat1CharAt {i : Nat} (hi : i < 10) {j : Nat} (hj : j < wdL i) : am_S G mJ1_charAt_3b067 3 0 0 [.ref (1000000 + (10 + i)), .int (iZ (j : Int))] (215, kK, kR, I, J) (am_fi (iZ (wdB i j : Int)) (215, kK, kR, I, J)) := by
  refine am_spec (plainFor_of_name (by decide +kernel)) (Nat.le_of_ble_eq_true rfl) (L := [some (.ref (1000000 + (10 + i))), some (.int (iZ (j : Int)))]) rfl (fun X C T => ?_)
  refine am_iload_n (q := 1) C dJ1_charAt_3b067_0 rfl rfl ?_
  refine am_aload_n (q := 2) C dJ1_charAt_3b067_1 rfl rfl ?_
  refine am_alenK (q := 3) C hi dJ1_charAt_3b067_2 rfl ?_
  refine am_callS (q := 6) (As := [.int (iZ (j : Int)), .int (iZ (wdL i : Int))]) (rest := []) C mb_J0_checkIndex_df160 st_J0_checkIndex_df160 ml_J1_9 dJ1_charAt_3b067_3 rfl (sp_strCheckIndex hj (by have := (wd_ok i hi).1; omega)) rfl rfl ⟨by decide, by decide⟩ ⟨Nat.le_refl _, Nat.le_refl _⟩ (Nat.le_of_ble_eq_true rfl) (am_rve ?_)
  refine am_aload_n (q := 7) C dJ1_charAt_3b067_6 rfl rfl ?_
  refine am_iload_n (q := 8) C dJ1_charAt_3b067_7 rfl rfl ?_
  refine am_baloadK (q := 9) C hi hj dJ1_charAt_3b067_8 rfl ?_
  refine am_intE (y := iZ (wdB i j : Int)) ((wd_ok i hi).2 j hj).1 ?_
  refine am_sipush (q := 12) (v := iZ 255) C dJ1_charAt_3b067_9 rfl rfl ?_
  refine am_iand (q := 13) C dJ1_charAt_3b067_12 rfl ?_
  refine am_intE (y := iZ (wdB i j : Int)) (wd_and _ ((wd_ok i hi).2 j hj).2).1 ?_
  refine am_i2c (q := 14) C dJ1_charAt_3b067_13 rfl ?_
  refine am_intE (y := iZ (wdB i j : Int)) (wd_and _ ((wd_ok i hi).2 j hj).2).2.1 ?_
  refine am_zret C T dJ1_charAt_3b067_14 rfl (wd_and _ ((wd_ok i hi).2 j hj).2).2.2 (Nat.le_refl _) (Nat.le_refl _) ⟨_, rfl, ?_⟩
  exact ⟨rfl, rfl⟩
set_option maxRecDepth 4000 in
theorem sp_strCharAt {i : Nat} (hi : i < 10) {j : Nat} (hj : j < wdL i) : am_S G mJ0_charAt_5068e 4 0 0 [.ref (1000000 + i), .int (iZ (j : Int))] (215, kK, kR, I, J) (am_fi (iZ (wdB i j : Int)) (215, kK, kR, I, J)) := by
  refine am_spec (plainFor_of_name (by decide +kernel)) (Nat.le_of_ble_eq_true rfl) (L := [some (.ref (1000000 + i)), some (.int (iZ (j : Int)))]) rfl (fun X C T => ?_)
  refine am_aload_n (q := 1) C dJ0_charAt_5068e_0 rfl rfl ?_
  refine am_callK (q := 4) (i := i) (As := []) (rest := []) C mb_J0_isLatin1_aae02 rfl im_J0_isLatin1_aae02 se_J0_isLatin1_aae02 ml_J0_492 hi dJ0_charAt_5068e_1 rfl (sp_isLatin1 hi) rfl rfl ⟨by decide, by decide⟩ ⟨Nat.le_refl _, Nat.le_refl _⟩ (Nat.le_of_ble_eq_true rfl) (am_rie ?_)
  refine am_intE (y := iZ 1) rfl ?_
  refine am_ifZ_eq (q := 7) (tgt := 16) C dJ0_charAt_5068e_4 (by decide) rfl ⟨by omega, by omega⟩ (fun c1 => ?_) (fun c1 => ?_)
  · exact absurd c1 (by decide)
  · refine am_aload_n (q := 8) C dJ0_charAt_5068e_7 rfl rfl ?_
    refine am_getKv (q := 11) C hi fj_J0_9 dJ0_charAt_5068e_8 rfl ?_
    refine am_iload_n (q := 12) C dJ0_charAt_5068e_11 rfl rfl ?_
    refine am_callS (q := 15) (As := [.ref (1000000 + (10 + i)), .int (iZ (j : Int))]) (rest := []) C mb_J1_charAt_3b067 st_J1_charAt_3b067 ml_J0_495 dJ0_charAt_5068e_12 rfl (sp_lat1CharAt hi hj) rfl rfl ⟨by decide, by decide⟩ ⟨Nat.le_refl _, Nat.le_refl _⟩ (Nat.le_of_ble_eq_true rfl) (am_rie ?_)
    refine am_zret C T dJ0_charAt_5068e_15 rfl (wd_and _ ((wd_ok i hi).2 j hj).2).2.2 (Nat.le_refl _) (Nat.le_refl _) ⟨_, rfl, ?_⟩
    exact ⟨rfl, rfl⟩
/-- the token from s to e spells word i -/
def spl (b : Nat → Nat) (s e i : Nat) : Bool := decide (e - s = wdL i ∧ ∀ j, j < wdL i → b (s + j) = wdB i j)
set_option maxRecDepth 4000 in
theorem sp_X8_spells {n : Nat} {b : Nat → Nat} (hT : atT I n b) {s e : Nat} (hs : s ≤ e) (he : e ≤ n) (h2 : I 163 2 = iZ (s : Int)) (h3 : I 163 3 = iZ (e : Int)) {i : Nat} (hi : i < 10) : am_S G mX8_spells 5 0 0 [.ref 163, .ref (1000000 + i)] (215, kK, kR, I, J) (am_fi (if spl b s e i = true then 1 else 0) (215, kK, kR, I, J)) := by
  have hT9 := hT
  obtain ⟨t1, t2, t3⟩ := hT
  have hw5 := (wd_ok i hi).1
  refine am_spec (plainFor_of_name (by decide +kernel)) (Nat.le_of_ble_eq_true rfl) (L := [some (.ref 163), some (.ref (1000000 + i)), none]) rfl (fun X C T => ?_)
  have lp : ∀ (fuel : Nat) (j : Nat), (j ≤ wdL i) → (e - s = wdL i) → (∀ k, k < j → b (s + k) = wdB i k) → (wdL i - j) < fuel → am_A G mX8_spells X (am_rm 5 0 0) 24 [some (.ref 163), some (.ref (1000000 + i)), some (.int (iZ (j : Int)))] [] (215, kK, kR, I, J) 0 0 := by
    intro fuel
    induction fuel with
    | zero => intro j hj hes hj2 hf; exact absurd hf (Nat.not_lt_zero _)
    | succ fuel ih =>
      intro j hj hes hj2 hf
      refine am_iload_n (q := 25) C dX8_spells_24 rfl rfl ?_
      refine am_aload_n (q := 26) C dX8_spells_25 rfl rfl ?_
      refine am_callK (q := 29) (i := i) (As := []) (rest := [.int (iZ (j : Int))]) C mb_J0_length_8abf5 rfl im_J0_length_8abf5 se_J0_length_8abf5 ml_X8_32 hi dX8_spells_26 rfl (sp_strLength hi) rfl rfl ⟨by decide, by decide⟩ ⟨Nat.le_refl _, Nat.le_refl _⟩ (Nat.le_of_ble_eq_true rfl) (am_rie ?_)
      refine am_icmpZ_ge (q := 32) (tgt := 58) C dX8_spells_29 (by decide) rfl ⟨by omega, by omega⟩ ⟨by omega, by omega⟩ (fun c1 => ?_) (fun c1 => ?_)
      · refine am_iconst (q := 59) (v := iZ 1) C dX8_spells_58 rfl rfl ?_
        refine am_zretB (b := true) C T dX8_spells_59 rfl (Nat.le_refl _) (Nat.le_refl _) rfl ⟨_, rfl, ?_⟩
        refine ⟨?_, rfl⟩
        rw [if_pos (show spl b s e i = true from decide_eq_true ⟨by omega, fun k hk => hj2 k (by omega)⟩)]; rfl
      · refine am_aload_n (q := 33) C dX8_spells_32 rfl rfl ?_
        refine am_aload_n (q := 34) C dX8_spells_33 rfl rfl ?_
        refine am_getIe (q := 37) (v := (iZ (s : Int))) C fb_X8_19 dX8_spells_34 rfl rfl kk_163 (show 163 < 215 by decide) h2 ?_
        refine am_iload_n (q := 38) C dX8_spells_37 rfl rfl ?_
        refine am_iaddZ (q := 39) C dX8_spells_38 rfl ?_
        refine am_callV (q := 42) (As := [.int (iZ ((s : Int) + (j : Int)))]) (rest := []) C mb_X8_byteAt im_X8_byteAt se_X8_byteAt ml_X8_29 cb_8 kk_163 (show 163 < 215 by decide) dX8_spells_39 rfl (sp_X8_byteAt hT9 (p := (s : Int) + (j : Int)) ⟨by omega, by omega⟩) rfl rfl ⟨by decide, by decide⟩ ⟨Nat.le_refl _, Nat.le_refl _⟩ (Nat.le_of_ble_eq_true rfl) (am_rie ?_)
        refine am_intE (show _ = iZ (sg (b (s + j))) from congrArg iZ (by rw [if_pos (by omega)]; rfl)) ?_
        have hb := sg_b (t3 (s + j) (by omega)).2
        refine am_aload_n (q := 43) C dX8_spells_42 rfl rfl ?_
        refine am_iload_n (q := 44) C dX8_spells_43 rfl rfl ?_
        refine am_callK (q := 47) (i := i) (As := [.int (iZ (j : Int))]) (rest := [.int (iZ (sg (b (s + j))))]) C mb_J0_charAt_5068e rfl im_J0_charAt_5068e se_J0_charAt_5068e ml_X8_38 hi dX8_spells_44 rfl (sp_strCharAt hi (j := j) (by omega)) rfl rfl ⟨by decide, by decide⟩ ⟨Nat.le_refl _, Nat.le_refl _⟩ (Nat.le_of_ble_eq_true rfl) (am_rie ?_)
        have hz := ((wd_ok i hi).2 j (by omega)).2
        refine am_icmpZ_eq (q := 50) (tgt := 52) C dX8_spells_47 (by decide) rfl ⟨by omega, by omega⟩ ⟨by omega, by omega⟩ (fun c2 => ?_) (fun c2 => ?_)
        · refine am_iincZ (q := 55) (L' := [some (.ref 163), some (.ref (1000000 + i)), some (.int (iZ ((j + 1 : Nat) : Int)))]) C dX8_spells_52 rfl rfl (by omega) (by decide) rfl rfl ?_
          refine am_goto (q := 24) C dX8_spells_55 (by decide) ?_
          exact ih (j + 1) (by omega) hes (fun k hk => by
            by_cases e9 : k = j
            · subst e9; omega
            · exact hj2 k (by omega)) (by omega)
        · refine am_iconst (q := 51) (v := iZ 0) C dX8_spells_50 rfl rfl ?_
          refine am_zretB (b := false) C T dX8_spells_51 rfl (Nat.le_refl _) (Nat.le_refl _) rfl ⟨_, rfl, ?_⟩
          refine ⟨?_, rfl⟩
          rw [if_neg]
          · rfl
          · intro hsp0
            have hsp := of_decide_eq_true hsp0
            first | (have := hsp.1; omega) | (have := hsp.2 j (by omega); omega)
  refine am_aload_n (q := 1) C dX8_spells_0 rfl rfl ?_
  refine am_ifnull (q := 4) C dX8_spells_1 rfl ?_
  refine am_aload_n (q := 5) C dX8_spells_4 rfl rfl ?_
  refine am_getIe (q := 8) (v := (iZ (e : Int))) C fb_X8_22 dX8_spells_5 rfl rfl kk_163 (show 163 < 215 by decide) h3 ?_
  refine am_aload_n (q := 9) C dX8_spells_8 rfl rfl ?_
  refine am_getIe (q := 12) (v := (iZ (s : Int))) C fb_X8_19 dX8_spells_9 rfl rfl kk_163 (show 163 < 215 by decide) h2 ?_
  refine am_isubZ (q := 13) C dX8_spells_12 rfl ?_
  refine am_aload_n (q := 14) C dX8_spells_13 rfl rfl ?_
  refine am_callK (q := 17) (i := i) (As := []) (rest := [.int (iZ ((e : Int) - (s : Int)))]) C mb_J0_length_8abf5 rfl im_J0_length_8abf5 se_J0_length_8abf5 ml_X8_32 hi dX8_spells_14 rfl (sp_strLength hi) rfl rfl ⟨by decide, by decide⟩ ⟨Nat.le_refl _, Nat.le_refl _⟩ (Nat.le_of_ble_eq_true rfl) (am_rie ?_)
  refine am_icmpZ_eq (q := 20) (tgt := 22) C dX8_spells_17 (by decide) rfl ⟨by omega, by omega⟩ ⟨by omega, by omega⟩ (fun c3 => ?_) (fun c3 => ?_)
  · refine am_iconst (q := 23) (v := iZ 0) C dX8_spells_22 rfl rfl ?_
    refine am_istore_n (q := 24) (L' := [some (.ref 163), some (.ref (1000000 + i)), some (.int (iZ 0))]) C dX8_spells_23 rfl (by decide) rfl rfl ?_
    exact lp (wdL i + 1) 0 (by omega) (by omega) (fun k hk => absurd hk (Nat.not_lt_zero _)) (by omega)
  · refine am_iconst (q := 21) (v := iZ 0) C dX8_spells_20 rfl rfl ?_
    refine am_zretB (b := false) C T dX8_spells_21 rfl (Nat.le_refl _) (Nat.le_refl _) rfl ⟨_, rfl, ?_⟩
    refine ⟨?_, rfl⟩
    rw [if_neg]
    · rfl
    · intro hsp0
      have hsp := of_decide_eq_true hsp0
      first | (have := hsp.1; omega) | (have := hsp.2 j (by omega); omega)
