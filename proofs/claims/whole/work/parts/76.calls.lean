variable {G : am_G} {I : Nat → Nat → Int32} {J : Nat → Nat → Int64}
theorem rg_x (x : Int32) : rg x.toInt := ⟨Int32.le_toInt x, Int32.toInt_lt x⟩
/-- the script lies at handle 1000021 -/
def scAt (G : am_G) (X : am_X) (L : Nat) (xs : Nat → Int32) : Prop := va_X (G.2.2.2.1 21) L xs (am_s X) (am_s X).heap ∧ G.2.2.2.1 21 < (am_s X).heap.size ∧ G.2.2.2.1 21 < am_b G
theorem am_sld {M : am_M} {X : am_X} {R : Room} {pc q : Nat} {L : List (Option Value)} {st : List Value} {w : am_W} {c n Ls k : Nat} {xs : Nat → Int32} {z : Int} (C : am_C G M X) (hX : scAt G X Ls xs) (hd : decode M.2.1 pc = .ok (.iaload, 1)) (hq : pc + 1 = q) (hz : z = (k : Int)) (hk : k < Ls ∧ Ls ≤ 3072) (kk : am_A G M X R q L (.int (iZ (xs k).toInt) :: st) w c n) : am_A G M X R pc L (.int (iZ z) :: .ref 1000021 :: st) w c n := by
  subst hq
  intro H locs ls hH hL hS
  have k9 := kk H locs ls hH hL hS
  have e1 : ((Value.int (iZ z) :: Value.ref 1000021 :: st).map (am_cv G)) = .int (iZ z) :: .ref (G.2.2.2.1 21) :: st.map (am_cv G) := by
    show _ :: Value.ref (am_rf G (1000000 + 21)) :: _ = _
    rw [am_rfK]; rfl
  rw [e1]
  have e2 : xs (iZ z).toNatClampNeg = iZ (xs k).toInt := by
    rw [iZ_clN hz (by omega)]
    simp [iZ]
  refine va_sld C.1 C.2.1 hX.1 hX.2.1 (by show ¬ am_b G ≤ _; have := hX.2.2; omega) hS (iZ_in (by omega) (by omega) (by omega)) hd ?_
  rw [e2]
  exact k9
theorem am_sln {M : am_M} {X : am_X} {R : Room} {pc q : Nat} {L : List (Option Value)} {st : List Value} {w : am_W} {c n Ls : Nat} {xs : Nat → Int32} (C : am_C G M X) (hX : scAt G X Ls xs) (hd : decode M.2.1 pc = .ok (.arraylength, 1)) (hq : pc + 1 = q) (kk : am_A G M X R q L (.int (iZ (Ls : Int)) :: st) w c n) : am_A G M X R pc L (.ref 1000021 :: st) w c n := by
  subst hq
  intro H locs ls hH hL hS
  have k9 := kk H locs ls hH hL hS
  have e1 : ((Value.ref 1000021 :: st).map (am_cv G)) = .ref (G.2.2.2.1 21) :: st.map (am_cv G) := by
    show Value.ref (am_rf G (1000000 + 21)) :: _ = _
    rw [am_rfK]
  rw [e1]
  exact va_slen C.1 C.2.1 hX.1 hX.2.1 (by show ¬ am_b G ≤ _; have := hX.2.2; omega) hS hd k9
theorem atM_frC {σ : SG} {I' : Nat → Nat → Int32} {J' : Nat → Nat → Int64} (h : atM I J σ) (hf : frC I J I' J') : atM I' J' σ := by
  obtain ⟨h1, h2, h3, h4, h5, h6, h7, h8⟩ := h
  have e := fun x (hx : 191 ≤ x) => (hf x hx).1
  have g := fun x (hx : 191 ≤ x) => (hf x hx).2
  have e1 := e 191 (by omega)
  exact ⟨h1.on (by rw [e1]) (e 192 (by omega)) (e 193 (by omega)) (e 194 (by omega)) (g 195 (by omega)), h2, h3.on (by rw [e1]) (fun r g1 g2 => e r (by omega)) (g 205 (by omega)), by rw [e1]; exact h4, by rw [e1]; exact h5, fun z => (h6 z).on (by rw [e1]) (by rw [e1]) (e 196 (by omega)) (e 197 (by omega)) (e 198 (by omega)) (g 199 (by omega)), h7.on (by rw [e1]) (e 206 (by omega)), fun i hi => (h8 i hi).on (e 212 (by omega)) (e 213 (by omega)) (g 214 (by omega))⟩
theorem atC_frM {σ : SG} {I' : Nat → Nat → Int32} {J' : Nat → Nat → Int64} (h : atC I J σ) (hf : frM I J I' J') : atC I' J' σ := by
  obtain ⟨h1, h2, h3, ⟨n, h4⟩, h5⟩ := h
  have e := fun x (hx : x < 191) => (hf x hx).1
  have g := fun x (hx : x < 191) => (hf x hx).2
  have e11 := e 11 (by omega)
  refine ⟨h1.on (fun a q1 q2 => e a (by omega)) (g 5 (by omega)), h2, h3.on (fun x q1 q2 => hf x (by omega)), ⟨n, ?_⟩, h5.on (fun x hx => hf x (by omega))⟩
  obtain ⟨u1, u2, u3, u4, u5⟩ := h4
  refine ⟨by rw [e11]; exact u1, u2, by rw [e11]; exact u3, u4, fun i hi => ⟨(u5 i hi).1.on (fun a q1 q2 => e a ?_) (g _ ?_), (u5 i hi).2⟩⟩
  · have := slot_lo n i; omega
  · have := slot_lo n i; omega
theorem icmp_same {v a v2 : Int32} (h1 : v = a) (h2 : v2 = a) (h : ¬ v = v2) {p : Prop} : p := absurd (h1.trans h2.symm) h
theorem lcmp_same {v a v2 : Int64} (h1 : v = a) (h2 : v2 = a) {p : Prop} : (¬ v = v2) → p := fun h => absurd (h1.trans h2.symm) h
set_option maxRecDepth 4000 in
theorem cs_0 {X : am_X} {R : Room} {c n Ls i : Nat} {xs : Nat → Int32} {σ : SG} (C : am_C G mL_law X) (hX : scAt G X Ls xs) (hL : Ls ≤ 3072) (hi : i + 6 ≤ Ls) (hR1 : 400 ≤ R.frames) (hR2 : 64 * 400 ≤ R.locals) (hc : c + 0 ≤ R.cells) (hn : n + 0 ≤ R.slots) (hC : atC I J σ) (hM : atM I J σ) (nx : ∀ (σ' : SG) (I' : Nat → Nat → Int32) (J' : Nat → Nat → Int64), atC I' J' σ' → atM I' J' σ' → am_A G mL_law X R 1305 [some (.ref 1000021), some (.ref 0), some (.ref 191), some (.int (iZ (i : Int)))] [] (215, kK, kR, I', J') c n) : am_A G mL_law X R 180 [some (.ref 1000021), some (.ref 0), some (.ref 191), some (.int (iZ (i : Int)))] [] (215, kK, kR, I, J) c n := by
  refine am_aload_n (q := 181) C dL_law_180 rfl rfl ?_
  refine am_aload_n (q := 182) C dL_law_181 rfl rfl ?_
  refine am_iload_n (q := 183) C dL_law_182 rfl rfl ?_
  refine am_iconst (q := 184) (v := iZ 1) C dL_law_183 rfl rfl ?_
  refine am_iaddZ (q := 185) C dL_law_184 rfl ?_
  refine am_sld (q := 186) (k := i + 1) C hX dL_law_185 rfl (by omega) (by omega) ?_
  refine am_aload_n (q := 187) C dL_law_186 rfl rfl ?_
  refine am_iload_n (q := 188) C dL_law_187 rfl rfl ?_
  refine am_iconst (q := 189) (v := iZ 2) C dL_law_188 rfl rfl ?_
  refine am_iaddZ (q := 190) C dL_law_189 rfl ?_
  refine am_sld (q := 191) (k := i + 2) C hX dL_law_190 rfl (by omega) (by omega) ?_
  refine am_callV (q := 194) (As := [.int (iZ ((xs (i + 1)).toInt)), .int (iZ ((xs (i + 2)).toInt))]) (rest := []) C mb_X10_part im_X10_part se_X10_part ml_L_13 cb_10 kk_0 (show 0 < 215 by decide) dL_law_191 rfl (sp_X10_part hC (rg_x _) (rg_x _)) rfl rfl ⟨by omega, by omega⟩ ⟨hc, hn⟩ (Nat.le_of_ble_eq_true rfl) (am_ri (fun v1 w' hw' => ?_))
  obtain ⟨e1, I1, J1, rfl, hC1, fC⟩ := hw'
  have hM1 := atM_frC hM fC
  refine am_aload_n (q := 195) C dL_law_194 rfl rfl ?_
  refine am_aload_n (q := 196) C dL_law_195 rfl rfl ?_
  refine am_iload_n (q := 197) C dL_law_196 rfl rfl ?_
  refine am_iconst (q := 198) (v := iZ 1) C dL_law_197 rfl rfl ?_
  refine am_iaddZ (q := 199) C dL_law_198 rfl ?_
  refine am_sld (q := 200) (k := i + 1) C hX dL_law_199 rfl (by omega) (by omega) ?_
  refine am_aload_n (q := 201) C dL_law_200 rfl rfl ?_
  refine am_iload_n (q := 202) C dL_law_201 rfl rfl ?_
  refine am_iconst (q := 203) (v := iZ 2) C dL_law_202 rfl rfl ?_
  refine am_iaddZ (q := 204) C dL_law_203 rfl ?_
  refine am_sld (q := 205) (k := i + 2) C hX dL_law_204 rfl (by omega) (by omega) ?_
  refine am_callV (q := 208) (As := [.int (iZ ((xs (i + 1)).toInt)), .int (iZ ((xs (i + 2)).toInt))]) (rest := [.int v1]) C mb_X11_part im_X11_part se_X11_part ml_L_17 cb_11 kk_191 (show 191 < 215 by decide) dL_law_205 rfl (sp_X11_part hM1 (rg_x _) (rg_x _)) rfl rfl ⟨by omega, by omega⟩ ⟨hc, hn⟩ (Nat.le_of_ble_eq_true rfl) (am_ri (fun v2 w' hw' => ?_))
  obtain ⟨e2, I2, J2, rfl, hM2, fM⟩ := hw'
  have hC2 := atC_frM hC1 fM
  refine am_icmp_eq (q := 211) (tgt := 1305) C dL_law_208 (by decide) rfl (fun c1 => ?_) (fun c1 => ?_)
  · exact nx _ _ _ hC2 hM2
  · first | exact icmp_same e1 e2 (by assumption) | exact lcmp_same e1 e2 (by assumption) | exact lcmp_same e1 e2 (fun z => (show ¬ lg_cmp v1 v2 = 0 by assumption) ((lg_cmp_eq v1 v2).mpr z))
set_option maxRecDepth 4000 in
theorem cs_1 {X : am_X} {R : Room} {c n Ls i : Nat} {xs : Nat → Int32} {σ : SG} (C : am_C G mL_law X) (hX : scAt G X Ls xs) (hL : Ls ≤ 3072) (hi : i + 6 ≤ Ls) (hR1 : 400 ≤ R.frames) (hR2 : 64 * 400 ≤ R.locals) (hc : c + 0 ≤ R.cells) (hn : n + 0 ≤ R.slots) (hC : atC I J σ) (hM : atM I J σ) (nx : ∀ (σ' : SG) (I' : Nat → Nat → Int32) (J' : Nat → Nat → Int64), atC I' J' σ' → atM I' J' σ' → am_A G mL_law X R 1305 [some (.ref 1000021), some (.ref 0), some (.ref 191), some (.int (iZ (i : Int)))] [] (215, kK, kR, I', J') c n) : am_A G mL_law X R 213 [some (.ref 1000021), some (.ref 0), some (.ref 191), some (.int (iZ (i : Int)))] [] (215, kK, kR, I, J) c n := by
  refine am_aload_n (q := 214) C dL_law_213 rfl rfl ?_
  refine am_aload_n (q := 215) C dL_law_214 rfl rfl ?_
  refine am_iload_n (q := 216) C dL_law_215 rfl rfl ?_
  refine am_iconst (q := 217) (v := iZ 1) C dL_law_216 rfl rfl ?_
  refine am_iaddZ (q := 218) C dL_law_217 rfl ?_
  refine am_sld (q := 219) (k := i + 1) C hX dL_law_218 rfl (by omega) (by omega) ?_
  refine am_aload_n (q := 220) C dL_law_219 rfl rfl ?_
  refine am_iload_n (q := 221) C dL_law_220 rfl rfl ?_
  refine am_iconst (q := 222) (v := iZ 2) C dL_law_221 rfl rfl ?_
  refine am_iaddZ (q := 223) C dL_law_222 rfl ?_
  refine am_sld (q := 224) (k := i + 2) C hX dL_law_223 rfl (by omega) (by omega) ?_
  refine am_callV (q := 227) (As := [.int (iZ ((xs (i + 1)).toInt)), .int (iZ ((xs (i + 2)).toInt))]) (rest := []) C mb_X10_arc im_X10_arc se_X10_arc ml_L_18 cb_10 kk_0 (show 0 < 215 by decide) dL_law_224 rfl (sp_X10_arc hC (rg_x _) (rg_x _)) rfl rfl ⟨by omega, by omega⟩ ⟨hc, hn⟩ (Nat.le_of_ble_eq_true rfl) (am_ri (fun v1 w' hw' => ?_))
  obtain ⟨e1, I1, J1, rfl, hC1, fC⟩ := hw'
  have hM1 := atM_frC hM fC
  refine am_aload_n (q := 228) C dL_law_227 rfl rfl ?_
  refine am_aload_n (q := 229) C dL_law_228 rfl rfl ?_
  refine am_iload_n (q := 230) C dL_law_229 rfl rfl ?_
  refine am_iconst (q := 231) (v := iZ 1) C dL_law_230 rfl rfl ?_
  refine am_iaddZ (q := 232) C dL_law_231 rfl ?_
  refine am_sld (q := 233) (k := i + 1) C hX dL_law_232 rfl (by omega) (by omega) ?_
  refine am_aload_n (q := 234) C dL_law_233 rfl rfl ?_
  refine am_iload_n (q := 235) C dL_law_234 rfl rfl ?_
  refine am_iconst (q := 236) (v := iZ 2) C dL_law_235 rfl rfl ?_
  refine am_iaddZ (q := 237) C dL_law_236 rfl ?_
  refine am_sld (q := 238) (k := i + 2) C hX dL_law_237 rfl (by omega) (by omega) ?_
  refine am_callV (q := 241) (As := [.int (iZ ((xs (i + 1)).toInt)), .int (iZ ((xs (i + 2)).toInt))]) (rest := [.int v1]) C mb_X11_arc im_X11_arc se_X11_arc ml_L_21 cb_11 kk_191 (show 191 < 215 by decide) dL_law_238 rfl (sp_X11_arc hM1 (rg_x _) (rg_x _)) rfl rfl ⟨by omega, by omega⟩ ⟨hc, hn⟩ (Nat.le_of_ble_eq_true rfl) (am_ri (fun v2 w' hw' => ?_))
  obtain ⟨e2, I2, J2, rfl, hM2, fM⟩ := hw'
  have hC2 := atC_frM hC1 fM
  refine am_icmp_eq (q := 244) (tgt := 1305) C dL_law_241 (by decide) rfl (fun c1 => ?_) (fun c1 => ?_)
  · exact nx _ _ _ hC2 hM2
  · first | exact icmp_same e1 e2 (by assumption) | exact lcmp_same e1 e2 (by assumption) | exact lcmp_same e1 e2 (fun z => (show ¬ lg_cmp v1 v2 = 0 by assumption) ((lg_cmp_eq v1 v2).mpr z))
set_option maxRecDepth 4000 in
theorem cs_2 {X : am_X} {R : Room} {c n Ls i : Nat} {xs : Nat → Int32} {σ : SG} (C : am_C G mL_law X) (hX : scAt G X Ls xs) (hL : Ls ≤ 3072) (hi : i + 6 ≤ Ls) (hR1 : 400 ≤ R.frames) (hR2 : 64 * 400 ≤ R.locals) (hc : c + 0 ≤ R.cells) (hn : n + 0 ≤ R.slots) (hC : atC I J σ) (hM : atM I J σ) (nx : ∀ (σ' : SG) (I' : Nat → Nat → Int32) (J' : Nat → Nat → Int64), atC I' J' σ' → atM I' J' σ' → am_A G mL_law X R 1305 [some (.ref 1000021), some (.ref 0), some (.ref 191), some (.int (iZ (i : Int)))] [] (215, kK, kR, I', J') c n) : am_A G mL_law X R 246 [some (.ref 1000021), some (.ref 0), some (.ref 191), some (.int (iZ (i : Int)))] [] (215, kK, kR, I, J) c n := by
  refine am_aload_n (q := 247) C dL_law_246 rfl rfl ?_
  refine am_callV (q := 250) (As := []) (rest := []) C mb_X10_drop im_X10_drop se_X10_drop ml_L_22 cb_10 kk_0 (show 0 < 215 by decide) dL_law_247 rfl (sp_X10_drop hC) rfl rfl ⟨by omega, by omega⟩ ⟨hc, hn⟩ (Nat.le_of_ble_eq_true rfl) (am_ri (fun v1 w' hw' => ?_))
  obtain ⟨e1, I1, J1, rfl, hC1, fC⟩ := hw'
  have hM1 := atM_frC hM fC
  refine am_aload_n (q := 251) C dL_law_250 rfl rfl ?_
  refine am_callV (q := 254) (As := []) (rest := [.int v1]) C mb_X11_drop im_X11_drop se_X11_drop ml_L_26 cb_11 kk_191 (show 191 < 215 by decide) dL_law_251 rfl (sp_X11_drop hM1) rfl rfl ⟨by omega, by omega⟩ ⟨hc, hn⟩ (Nat.le_of_ble_eq_true rfl) (am_ri (fun v2 w' hw' => ?_))
  obtain ⟨e2, I2, J2, rfl, hM2, fM⟩ := hw'
  have hC2 := atC_frM hC1 fM
  refine am_icmp_eq (q := 257) (tgt := 1305) C dL_law_254 (by decide) rfl (fun c1 => ?_) (fun c1 => ?_)
  · exact nx _ _ _ hC2 hM2
  · first | exact icmp_same e1 e2 (by assumption) | exact lcmp_same e1 e2 (by assumption) | exact lcmp_same e1 e2 (fun z => (show ¬ lg_cmp v1 v2 = 0 by assumption) ((lg_cmp_eq v1 v2).mpr z))
set_option maxRecDepth 4000 in
theorem cs_3 {X : am_X} {R : Room} {c n Ls i : Nat} {xs : Nat → Int32} {σ : SG} (C : am_C G mL_law X) (hX : scAt G X Ls xs) (hL : Ls ≤ 3072) (hi : i + 6 ≤ Ls) (hR1 : 400 ≤ R.frames) (hR2 : 64 * 400 ≤ R.locals) (hc : c + 0 ≤ R.cells) (hn : n + 0 ≤ R.slots) (hC : atC I J σ) (hM : atM I J σ) (nx : ∀ (σ' : SG) (I' : Nat → Nat → Int32) (J' : Nat → Nat → Int64), atC I' J' σ' → atM I' J' σ' → am_A G mL_law X R 1305 [some (.ref 1000021), some (.ref 0), some (.ref 191), some (.int (iZ (i : Int)))] [] (215, kK, kR, I', J') c n) : am_A G mL_law X R 259 [some (.ref 1000021), some (.ref 0), some (.ref 191), some (.int (iZ (i : Int)))] [] (215, kK, kR, I, J) c n := by
  refine am_aload_n (q := 260) C dL_law_259 rfl rfl ?_
  refine am_aload_n (q := 261) C dL_law_260 rfl rfl ?_
  refine am_iload_n (q := 262) C dL_law_261 rfl rfl ?_
  refine am_iconst (q := 263) (v := iZ 1) C dL_law_262 rfl rfl ?_
  refine am_iaddZ (q := 264) C dL_law_263 rfl ?_
  refine am_sld (q := 265) (k := i + 1) C hX dL_law_264 rfl (by omega) (by omega) ?_
  refine am_aload_n (q := 266) C dL_law_265 rfl rfl ?_
  refine am_iload_n (q := 267) C dL_law_266 rfl rfl ?_
  refine am_iconst (q := 268) (v := iZ 2) C dL_law_267 rfl rfl ?_
  refine am_iaddZ (q := 269) C dL_law_268 rfl ?_
  refine am_sld (q := 270) (k := i + 2) C hX dL_law_269 rfl (by omega) (by omega) ?_
  refine am_callV (q := 273) (As := [.int (iZ ((xs (i + 1)).toInt)), .int (iZ ((xs (i + 2)).toInt))]) (rest := []) C mb_X10_weigh im_X10_weigh se_X10_weigh ml_L_27 cb_10 kk_0 (show 0 < 215 by decide) dL_law_270 rfl (sp_X10_weigh hC (rg_x _) (rg_x _)) rfl rfl ⟨by omega, by omega⟩ ⟨hc, hn⟩ (Nat.le_of_ble_eq_true rfl) (am_ri (fun v1 w' hw' => ?_))
  obtain ⟨e1, I1, J1, rfl, hC1, fC⟩ := hw'
  have hM1 := atM_frC hM fC
  refine am_aload_n (q := 274) C dL_law_273 rfl rfl ?_
  refine am_aload_n (q := 275) C dL_law_274 rfl rfl ?_
  refine am_iload_n (q := 276) C dL_law_275 rfl rfl ?_
  refine am_iconst (q := 277) (v := iZ 1) C dL_law_276 rfl rfl ?_
  refine am_iaddZ (q := 278) C dL_law_277 rfl ?_
  refine am_sld (q := 279) (k := i + 1) C hX dL_law_278 rfl (by omega) (by omega) ?_
  refine am_aload_n (q := 280) C dL_law_279 rfl rfl ?_
  refine am_iload_n (q := 281) C dL_law_280 rfl rfl ?_
  refine am_iconst (q := 282) (v := iZ 2) C dL_law_281 rfl rfl ?_
  refine am_iaddZ (q := 283) C dL_law_282 rfl ?_
  refine am_sld (q := 284) (k := i + 2) C hX dL_law_283 rfl (by omega) (by omega) ?_
  refine am_callV (q := 287) (As := [.int (iZ ((xs (i + 1)).toInt)), .int (iZ ((xs (i + 2)).toInt))]) (rest := [.int v1]) C mb_X11_weigh im_X11_weigh se_X11_weigh ml_L_30 cb_11 kk_191 (show 191 < 215 by decide) dL_law_284 rfl (sp_X11_weigh hM1 (rg_x _) (rg_x _)) rfl rfl ⟨by omega, by omega⟩ ⟨hc, hn⟩ (Nat.le_of_ble_eq_true rfl) (am_ri (fun v2 w' hw' => ?_))
  obtain ⟨e2, I2, J2, rfl, hM2, fM⟩ := hw'
  have hC2 := atC_frM hC1 fM
  refine am_icmp_eq (q := 290) (tgt := 1305) C dL_law_287 (by decide) rfl (fun c1 => ?_) (fun c1 => ?_)
  · exact nx _ _ _ hC2 hM2
  · first | exact icmp_same e1 e2 (by assumption) | exact lcmp_same e1 e2 (by assumption) | exact lcmp_same e1 e2 (fun z => (show ¬ lg_cmp v1 v2 = 0 by assumption) ((lg_cmp_eq v1 v2).mpr z))
set_option maxRecDepth 4000 in
theorem cs_4 {X : am_X} {R : Room} {c n Ls i : Nat} {xs : Nat → Int32} {σ : SG} (C : am_C G mL_law X) (hX : scAt G X Ls xs) (hL : Ls ≤ 3072) (hi : i + 6 ≤ Ls) (hR1 : 400 ≤ R.frames) (hR2 : 64 * 400 ≤ R.locals) (hc : c + 0 ≤ R.cells) (hn : n + 0 ≤ R.slots) (hC : atC I J σ) (hM : atM I J σ) (nx : ∀ (σ' : SG) (I' : Nat → Nat → Int32) (J' : Nat → Nat → Int64), atC I' J' σ' → atM I' J' σ' → am_A G mL_law X R 1305 [some (.ref 1000021), some (.ref 0), some (.ref 191), some (.int (iZ (i : Int)))] [] (215, kK, kR, I', J') c n) : am_A G mL_law X R 292 [some (.ref 1000021), some (.ref 0), some (.ref 191), some (.int (iZ (i : Int)))] [] (215, kK, kR, I, J) c n := by
  refine am_aload_n (q := 293) C dL_law_292 rfl rfl ?_
  refine am_aload_n (q := 294) C dL_law_293 rfl rfl ?_
  refine am_iload_n (q := 295) C dL_law_294 rfl rfl ?_
  refine am_iconst (q := 296) (v := iZ 1) C dL_law_295 rfl rfl ?_
  refine am_iaddZ (q := 297) C dL_law_296 rfl ?_
  refine am_sld (q := 298) (k := i + 1) C hX dL_law_297 rfl (by omega) (by omega) ?_
  refine am_aload_n (q := 299) C dL_law_298 rfl rfl ?_
  refine am_iload_n (q := 300) C dL_law_299 rfl rfl ?_
  refine am_iconst (q := 301) (v := iZ 2) C dL_law_300 rfl rfl ?_
  refine am_iaddZ (q := 302) C dL_law_301 rfl ?_
  refine am_sld (q := 303) (k := i + 2) C hX dL_law_302 rfl (by omega) (by omega) ?_
  refine am_callV (q := 306) (As := [.int (iZ ((xs (i + 1)).toInt)), .int (iZ ((xs (i + 2)).toInt))]) (rest := []) C mb_X10_partOf im_X10_partOf se_X10_partOf ml_L_31 cb_10 kk_0 (show 0 < 215 by decide) dL_law_303 rfl (sp_X10_partOf hC (rg_x _) (rg_x _)) rfl rfl ⟨by omega, by omega⟩ ⟨hc, hn⟩ (Nat.le_of_ble_eq_true rfl) (am_ri (fun v1 w' hw' => ?_))
  obtain ⟨e1, I1, J1, rfl, hC1, fC⟩ := hw'
  have hM1 := atM_frC hM fC
  refine am_aload_n (q := 307) C dL_law_306 rfl rfl ?_
  refine am_aload_n (q := 308) C dL_law_307 rfl rfl ?_
  refine am_iload_n (q := 309) C dL_law_308 rfl rfl ?_
  refine am_iconst (q := 310) (v := iZ 1) C dL_law_309 rfl rfl ?_
  refine am_iaddZ (q := 311) C dL_law_310 rfl ?_
  refine am_sld (q := 312) (k := i + 1) C hX dL_law_311 rfl (by omega) (by omega) ?_
  refine am_aload_n (q := 313) C dL_law_312 rfl rfl ?_
  refine am_iload_n (q := 314) C dL_law_313 rfl rfl ?_
  refine am_iconst (q := 315) (v := iZ 2) C dL_law_314 rfl rfl ?_
  refine am_iaddZ (q := 316) C dL_law_315 rfl ?_
  refine am_sld (q := 317) (k := i + 2) C hX dL_law_316 rfl (by omega) (by omega) ?_
  refine am_callV (q := 320) (As := [.int (iZ ((xs (i + 1)).toInt)), .int (iZ ((xs (i + 2)).toInt))]) (rest := [.int v1]) C mb_X11_partOf im_X11_partOf se_X11_partOf ml_L_34 cb_11 kk_191 (show 191 < 215 by decide) dL_law_317 rfl (sp_X11_partOf hM1 (rg_x _) (rg_x _)) rfl rfl ⟨by omega, by omega⟩ ⟨hc, hn⟩ (Nat.le_of_ble_eq_true rfl) (am_ri (fun v2 w' hw' => ?_))
  obtain ⟨e2, I2, J2, rfl, hM2, fM⟩ := hw'
  have hC2 := atC_frM hC1 fM
  refine am_icmp_eq (q := 323) (tgt := 1305) C dL_law_320 (by decide) rfl (fun c1 => ?_) (fun c1 => ?_)
  · exact nx _ _ _ hC2 hM2
  · first | exact icmp_same e1 e2 (by assumption) | exact lcmp_same e1 e2 (by assumption) | exact lcmp_same e1 e2 (fun z => (show ¬ lg_cmp v1 v2 = 0 by assumption) ((lg_cmp_eq v1 v2).mpr z))
set_option maxRecDepth 4000 in
theorem cs_5 {X : am_X} {R : Room} {c n Ls i : Nat} {xs : Nat → Int32} {σ : SG} (C : am_C G mL_law X) (hX : scAt G X Ls xs) (hL : Ls ≤ 3072) (hi : i + 6 ≤ Ls) (hR1 : 400 ≤ R.frames) (hR2 : 64 * 400 ≤ R.locals) (hc : c + 0 ≤ R.cells) (hn : n + 0 ≤ R.slots) (hC : atC I J σ) (hM : atM I J σ) (nx : ∀ (σ' : SG) (I' : Nat → Nat → Int32) (J' : Nat → Nat → Int64), atC I' J' σ' → atM I' J' σ' → am_A G mL_law X R 1305 [some (.ref 1000021), some (.ref 0), some (.ref 191), some (.int (iZ (i : Int)))] [] (215, kK, kR, I', J') c n) : am_A G mL_law X R 325 [some (.ref 1000021), some (.ref 0), some (.ref 191), some (.int (iZ (i : Int)))] [] (215, kK, kR, I, J) c n := by
  refine am_aload_n (q := 326) C dL_law_325 rfl rfl ?_
  refine am_aload_n (q := 327) C dL_law_326 rfl rfl ?_
  refine am_iload_n (q := 328) C dL_law_327 rfl rfl ?_
  refine am_iconst (q := 329) (v := iZ 1) C dL_law_328 rfl rfl ?_
  refine am_iaddZ (q := 330) C dL_law_329 rfl ?_
  refine am_sld (q := 331) (k := i + 1) C hX dL_law_330 rfl (by omega) (by omega) ?_
  refine am_i2lZ (q := 332) C dL_law_331 rfl (rg_x _) ?_
  refine am_bipush (q := 334) (v := iZ 32) C dL_law_332 rfl rfl ?_
  refine am_lshl (q := 335) C dL_law_334 rfl ?_
  refine am_aload_n (q := 336) C dL_law_335 rfl rfl ?_
  refine am_iload_n (q := 337) C dL_law_336 rfl rfl ?_
  refine am_iconst (q := 338) (v := iZ 2) C dL_law_337 rfl rfl ?_
  refine am_iaddZ (q := 339) C dL_law_338 rfl ?_
  refine am_sld (q := 340) (k := i + 2) C hX dL_law_339 rfl (by omega) (by omega) ?_
  refine am_i2lZ (q := 341) C dL_law_340 rfl (rg_x _) ?_
  refine am_ldc2 (q := 344) C dL_law_341 rfl ck_L_35 ?_
  refine am_longE (y := lN 4294967295) rfl ?_
  refine am_land (q := 345) C dL_law_344 rfl ?_
  refine am_lor (q := 346) C dL_law_345 rfl ?_
  refine am_aload_n (q := 347) C dL_law_346 rfl rfl ?_
  refine am_iload_n (q := 348) C dL_law_347 rfl rfl ?_
  refine am_iconst (q := 349) (v := iZ 3) C dL_law_348 rfl rfl ?_
  refine am_iaddZ (q := 350) C dL_law_349 rfl ?_
  refine am_sld (q := 351) (k := i + 3) C hX dL_law_350 rfl (by omega) (by omega) ?_
  refine am_callV (q := 354) (As := [.long ((jshlL (Int64.ofInt ((xs (i + 1)).toInt)) (iZ 32)) ||| ((Int64.ofInt ((xs (i + 2)).toInt)) &&& (lN 4294967295))), .int (iZ ((xs (i + 3)).toInt))]) (rest := []) C mb_X10_feed im_X10_feed se_X10_feed ml_L_37 cb_10 kk_0 (show 0 < 215 by decide) dL_law_351 rfl (sp_X10_feed hC (rg_x _)) rfl rfl ⟨by omega, by omega⟩ ⟨hc, hn⟩ (Nat.le_of_ble_eq_true rfl) (am_ri (fun v1 w' hw' => ?_))
  obtain ⟨e1, I1, J1, rfl, hC1, fC⟩ := hw'
  have hM1 := atM_frC hM fC
  refine am_aload_n (q := 355) C dL_law_354 rfl rfl ?_
  refine am_aload_n (q := 356) C dL_law_355 rfl rfl ?_
  refine am_iload_n (q := 357) C dL_law_356 rfl rfl ?_
  refine am_iconst (q := 358) (v := iZ 1) C dL_law_357 rfl rfl ?_
  refine am_iaddZ (q := 359) C dL_law_358 rfl ?_
  refine am_sld (q := 360) (k := i + 1) C hX dL_law_359 rfl (by omega) (by omega) ?_
  refine am_i2lZ (q := 361) C dL_law_360 rfl (rg_x _) ?_
  refine am_bipush (q := 363) (v := iZ 32) C dL_law_361 rfl rfl ?_
  refine am_lshl (q := 364) C dL_law_363 rfl ?_
  refine am_aload_n (q := 365) C dL_law_364 rfl rfl ?_
  refine am_iload_n (q := 366) C dL_law_365 rfl rfl ?_
  refine am_iconst (q := 367) (v := iZ 2) C dL_law_366 rfl rfl ?_
  refine am_iaddZ (q := 368) C dL_law_367 rfl ?_
  refine am_sld (q := 369) (k := i + 2) C hX dL_law_368 rfl (by omega) (by omega) ?_
  refine am_i2lZ (q := 370) C dL_law_369 rfl (rg_x _) ?_
  refine am_ldc2 (q := 373) C dL_law_370 rfl ck_L_35 ?_
  refine am_longE (y := lN 4294967295) rfl ?_
  refine am_land (q := 374) C dL_law_373 rfl ?_
  refine am_lor (q := 375) C dL_law_374 rfl ?_
  refine am_aload_n (q := 376) C dL_law_375 rfl rfl ?_
  refine am_iload_n (q := 377) C dL_law_376 rfl rfl ?_
  refine am_iconst (q := 378) (v := iZ 3) C dL_law_377 rfl rfl ?_
  refine am_iaddZ (q := 379) C dL_law_378 rfl ?_
  refine am_sld (q := 380) (k := i + 3) C hX dL_law_379 rfl (by omega) (by omega) ?_
  refine am_callV (q := 383) (As := [.long ((jshlL (Int64.ofInt ((xs (i + 1)).toInt)) (iZ 32)) ||| ((Int64.ofInt ((xs (i + 2)).toInt)) &&& (lN 4294967295))), .int (iZ ((xs (i + 3)).toInt))]) (rest := [.int v1]) C mb_X11_feed im_X11_feed se_X11_feed ml_L_41 cb_11 kk_191 (show 191 < 215 by decide) dL_law_380 rfl (sp_X11_feed hM1 (rg_x _)) rfl rfl ⟨by omega, by omega⟩ ⟨hc, hn⟩ (Nat.le_of_ble_eq_true rfl) (am_ri (fun v2 w' hw' => ?_))
  obtain ⟨e2, I2, J2, rfl, hM2, fM⟩ := hw'
  have hC2 := atC_frM hC1 fM
  refine am_icmp_eq (q := 386) (tgt := 1305) C dL_law_383 (by decide) rfl (fun c1 => ?_) (fun c1 => ?_)
  · exact nx _ _ _ hC2 hM2
  · first | exact icmp_same e1 e2 (by assumption) | exact lcmp_same e1 e2 (by assumption) | exact lcmp_same e1 e2 (fun z => (show ¬ lg_cmp v1 v2 = 0 by assumption) ((lg_cmp_eq v1 v2).mpr z))
set_option maxRecDepth 4000 in
theorem cs_6 {X : am_X} {R : Room} {c n Ls i : Nat} {xs : Nat → Int32} {σ : SG} (C : am_C G mL_law X) (hX : scAt G X Ls xs) (hL : Ls ≤ 3072) (hi : i + 6 ≤ Ls) (hR1 : 400 ≤ R.frames) (hR2 : 64 * 400 ≤ R.locals) (hc : c + 0 ≤ R.cells) (hn : n + 0 ≤ R.slots) (hC : atC I J σ) (hM : atM I J σ) (nx : ∀ (σ' : SG) (I' : Nat → Nat → Int32) (J' : Nat → Nat → Int64), atC I' J' σ' → atM I' J' σ' → am_A G mL_law X R 1305 [some (.ref 1000021), some (.ref 0), some (.ref 191), some (.int (iZ (i : Int)))] [] (215, kK, kR, I', J') c n) : am_A G mL_law X R 388 [some (.ref 1000021), some (.ref 0), some (.ref 191), some (.int (iZ (i : Int)))] [] (215, kK, kR, I, J) c n := by
  refine am_aload_n (q := 389) C dL_law_388 rfl rfl ?_
  refine am_aload_n (q := 390) C dL_law_389 rfl rfl ?_
  refine am_iload_n (q := 391) C dL_law_390 rfl rfl ?_
  refine am_iconst (q := 392) (v := iZ 1) C dL_law_391 rfl rfl ?_
  refine am_iaddZ (q := 393) C dL_law_392 rfl ?_
  refine am_sld (q := 394) (k := i + 1) C hX dL_law_393 rfl (by omega) (by omega) ?_
  refine am_callV (q := 397) (As := [.int (iZ ((xs (i + 1)).toInt))]) (rest := []) C mb_X10_rule im_X10_rule se_X10_rule ml_L_42 cb_10 kk_0 (show 0 < 215 by decide) dL_law_394 rfl (sp_X10_rule hC (rg_x _)) rfl rfl ⟨by omega, by omega⟩ ⟨hc, hn⟩ (Nat.le_of_ble_eq_true rfl) (am_ri (fun v1 w' hw' => ?_))
  obtain ⟨r, e1, I1, J1, rfl, hC1, fC⟩ := hw'
  have hM1 := atM_frC hM fC
  refine am_aload_n (q := 398) C dL_law_397 rfl rfl ?_
  refine am_aload_n (q := 399) C dL_law_398 rfl rfl ?_
  refine am_iload_n (q := 400) C dL_law_399 rfl rfl ?_
  refine am_iconst (q := 401) (v := iZ 1) C dL_law_400 rfl rfl ?_
  refine am_iaddZ (q := 402) C dL_law_401 rfl ?_
  refine am_sld (q := 403) (k := i + 1) C hX dL_law_402 rfl (by omega) (by omega) ?_
  refine am_callV (q := 406) (As := [.int (iZ ((xs (i + 1)).toInt))]) (rest := [.int v1]) C mb_X11_rule im_X11_rule se_X11_rule ml_L_46 cb_11 kk_191 (show 191 < 215 by decide) dL_law_403 rfl (sp_X11_rule hM1 (rg_x _) r) rfl rfl ⟨by omega, by omega⟩ ⟨hc, hn⟩ (Nat.le_of_ble_eq_true rfl) (am_ri (fun v2 w' hw' => ?_))
  obtain ⟨e2, I2, J2, rfl, hM2, fM⟩ := hw'
  have hC2 := atC_frM hC1 fM
  refine am_icmp_eq (q := 409) (tgt := 1305) C dL_law_406 (by decide) rfl (fun c1 => ?_) (fun c1 => ?_)
  · exact nx _ _ _ hC2 hM2
  · first | exact icmp_same e1 e2 (by assumption) | exact lcmp_same e1 e2 (by assumption) | exact lcmp_same e1 e2 (fun z => (show ¬ lg_cmp v1 v2 = 0 by assumption) ((lg_cmp_eq v1 v2).mpr z))
set_option maxRecDepth 4000 in
theorem cs_7 {X : am_X} {R : Room} {c n Ls i : Nat} {xs : Nat → Int32} {σ : SG} (C : am_C G mL_law X) (hX : scAt G X Ls xs) (hL : Ls ≤ 3072) (hi : i + 6 ≤ Ls) (hR1 : 400 ≤ R.frames) (hR2 : 64 * 400 ≤ R.locals) (hc : c + 0 ≤ R.cells) (hn : n + 0 ≤ R.slots) (hC : atC I J σ) (hM : atM I J σ) (nx : ∀ (σ' : SG) (I' : Nat → Nat → Int32) (J' : Nat → Nat → Int64), atC I' J' σ' → atM I' J' σ' → am_A G mL_law X R 1305 [some (.ref 1000021), some (.ref 0), some (.ref 191), some (.int (iZ (i : Int)))] [] (215, kK, kR, I', J') c n) : am_A G mL_law X R 411 [some (.ref 1000021), some (.ref 0), some (.ref 191), some (.int (iZ (i : Int)))] [] (215, kK, kR, I, J) c n := by
  refine am_aload_n (q := 412) C dL_law_411 rfl rfl ?_
  refine am_aload_n (q := 413) C dL_law_412 rfl rfl ?_
  refine am_iload_n (q := 414) C dL_law_413 rfl rfl ?_
  refine am_iconst (q := 415) (v := iZ 1) C dL_law_414 rfl rfl ?_
  refine am_iaddZ (q := 416) C dL_law_415 rfl ?_
  refine am_sld (q := 417) (k := i + 1) C hX dL_law_416 rfl (by omega) (by omega) ?_
  refine am_aload_n (q := 418) C dL_law_417 rfl rfl ?_
  refine am_iload_n (q := 419) C dL_law_418 rfl rfl ?_
  refine am_iconst (q := 420) (v := iZ 2) C dL_law_419 rfl rfl ?_
  refine am_iaddZ (q := 421) C dL_law_420 rfl ?_
  refine am_sld (q := 422) (k := i + 2) C hX dL_law_421 rfl (by omega) (by omega) ?_
  refine am_callV (q := 425) (As := [.int (iZ ((xs (i + 1)).toInt)), .int (iZ ((xs (i + 2)).toInt))]) (rest := []) C mb_X10_lets im_X10_lets se_X10_lets ml_L_47 cb_10 kk_0 (show 0 < 215 by decide) dL_law_422 rfl (sp_X10_lets hC (rg_x _) (rg_x _)) rfl rfl ⟨by omega, by omega⟩ ⟨hc, hn⟩ (Nat.le_of_ble_eq_true rfl) (am_ri (fun v1 w' hw' => ?_))
  obtain ⟨e1, I1, J1, rfl, hC1, fC⟩ := hw'
  have hM1 := atM_frC hM fC
  refine am_aload_n (q := 426) C dL_law_425 rfl rfl ?_
  refine am_aload_n (q := 427) C dL_law_426 rfl rfl ?_
  refine am_iload_n (q := 428) C dL_law_427 rfl rfl ?_
  refine am_iconst (q := 429) (v := iZ 1) C dL_law_428 rfl rfl ?_
  refine am_iaddZ (q := 430) C dL_law_429 rfl ?_
  refine am_sld (q := 431) (k := i + 1) C hX dL_law_430 rfl (by omega) (by omega) ?_
  refine am_aload_n (q := 432) C dL_law_431 rfl rfl ?_
  refine am_iload_n (q := 433) C dL_law_432 rfl rfl ?_
  refine am_iconst (q := 434) (v := iZ 2) C dL_law_433 rfl rfl ?_
  refine am_iaddZ (q := 435) C dL_law_434 rfl ?_
  refine am_sld (q := 436) (k := i + 2) C hX dL_law_435 rfl (by omega) (by omega) ?_
  refine am_callV (q := 439) (As := [.int (iZ ((xs (i + 1)).toInt)), .int (iZ ((xs (i + 2)).toInt))]) (rest := [.int v1]) C mb_X11_lets im_X11_lets se_X11_lets ml_L_50 cb_11 kk_191 (show 191 < 215 by decide) dL_law_436 rfl (sp_X11_lets hM1 (rg_x _) (rg_x _)) rfl rfl ⟨by omega, by omega⟩ ⟨hc, hn⟩ (Nat.le_of_ble_eq_true rfl) (am_ri (fun v2 w' hw' => ?_))
  obtain ⟨e2, I2, J2, rfl, hM2, fM⟩ := hw'
  have hC2 := atC_frM hC1 fM
  refine am_icmp_eq (q := 442) (tgt := 1305) C dL_law_439 (by decide) rfl (fun c1 => ?_) (fun c1 => ?_)
  · exact nx _ _ _ hC2 hM2
  · first | exact icmp_same e1 e2 (by assumption) | exact lcmp_same e1 e2 (by assumption) | exact lcmp_same e1 e2 (fun z => (show ¬ lg_cmp v1 v2 = 0 by assumption) ((lg_cmp_eq v1 v2).mpr z))
set_option maxRecDepth 4000 in
theorem cs_8 {X : am_X} {R : Room} {c n Ls i : Nat} {xs : Nat → Int32} {σ : SG} (C : am_C G mL_law X) (hX : scAt G X Ls xs) (hL : Ls ≤ 3072) (hi : i + 6 ≤ Ls) (hR1 : 400 ≤ R.frames) (hR2 : 64 * 400 ≤ R.locals) (hc : c + 0 ≤ R.cells) (hn : n + 0 ≤ R.slots) (hC : atC I J σ) (hM : atM I J σ) (nx : ∀ (σ' : SG) (I' : Nat → Nat → Int32) (J' : Nat → Nat → Int64), atC I' J' σ' → atM I' J' σ' → am_A G mL_law X R 1305 [some (.ref 1000021), some (.ref 0), some (.ref 191), some (.int (iZ (i : Int)))] [] (215, kK, kR, I', J') c n) : am_A G mL_law X R 444 [some (.ref 1000021), some (.ref 0), some (.ref 191), some (.int (iZ (i : Int)))] [] (215, kK, kR, I, J) c n := by
  refine am_aload_n (q := 445) C dL_law_444 rfl rfl ?_
  refine am_callV (q := 448) (As := []) (rest := []) C mb_X10_undo im_X10_undo se_X10_undo ml_L_51 cb_10 kk_0 (show 0 < 215 by decide) dL_law_445 rfl (sp_X10_undo hC) rfl rfl ⟨by omega, by omega⟩ ⟨hc, hn⟩ (Nat.le_of_ble_eq_true rfl) (am_ri (fun v1 w' hw' => ?_))
  obtain ⟨e1, I1, J1, rfl, hC1, fC⟩ := hw'
  have hM1 := atM_frC hM fC
  refine am_aload_n (q := 449) C dL_law_448 rfl rfl ?_
  refine am_callV (q := 452) (As := []) (rest := [.int v1]) C mb_X11_undo im_X11_undo se_X11_undo ml_L_54 cb_11 kk_191 (show 191 < 215 by decide) dL_law_449 rfl (sp_X11_undo hM1) rfl rfl ⟨by omega, by omega⟩ ⟨hc, hn⟩ (Nat.le_of_ble_eq_true rfl) (am_ri (fun v2 w' hw' => ?_))
  obtain ⟨e2, I2, J2, rfl, hM2, fM⟩ := hw'
  have hC2 := atC_frM hC1 fM
  refine am_icmp_eq (q := 455) (tgt := 1305) C dL_law_452 (by decide) rfl (fun c1 => ?_) (fun c1 => ?_)
  · exact nx _ _ _ hC2 hM2
  · first | exact icmp_same e1 e2 (by assumption) | exact lcmp_same e1 e2 (by assumption) | exact lcmp_same e1 e2 (fun z => (show ¬ lg_cmp v1 v2 = 0 by assumption) ((lg_cmp_eq v1 v2).mpr z))
set_option maxRecDepth 4000 in
theorem cs_9 {X : am_X} {R : Room} {c n Ls i : Nat} {xs : Nat → Int32} {σ : SG} (C : am_C G mL_law X) (hX : scAt G X Ls xs) (hL : Ls ≤ 3072) (hi : i + 6 ≤ Ls) (hR1 : 400 ≤ R.frames) (hR2 : 64 * 400 ≤ R.locals) (hc : c + 0 ≤ R.cells) (hn : n + 0 ≤ R.slots) (hC : atC I J σ) (hM : atM I J σ) (nx : ∀ (σ' : SG) (I' : Nat → Nat → Int32) (J' : Nat → Nat → Int64), atC I' J' σ' → atM I' J' σ' → am_A G mL_law X R 1305 [some (.ref 1000021), some (.ref 0), some (.ref 191), some (.int (iZ (i : Int)))] [] (215, kK, kR, I', J') c n) : am_A G mL_law X R 457 [some (.ref 1000021), some (.ref 0), some (.ref 191), some (.int (iZ (i : Int)))] [] (215, kK, kR, I, J) c n := by
  refine am_aload_n (q := 458) C dL_law_457 rfl rfl ?_
  refine am_aload_n (q := 459) C dL_law_458 rfl rfl ?_
  refine am_iload_n (q := 460) C dL_law_459 rfl rfl ?_
  refine am_iconst (q := 461) (v := iZ 1) C dL_law_460 rfl rfl ?_
  refine am_iaddZ (q := 462) C dL_law_461 rfl ?_
  refine am_sld (q := 463) (k := i + 1) C hX dL_law_462 rfl (by omega) (by omega) ?_
  refine am_aload_n (q := 464) C dL_law_463 rfl rfl ?_
  refine am_iload_n (q := 465) C dL_law_464 rfl rfl ?_
  refine am_iconst (q := 466) (v := iZ 2) C dL_law_465 rfl rfl ?_
  refine am_iaddZ (q := 467) C dL_law_466 rfl ?_
  refine am_sld (q := 468) (k := i + 2) C hX dL_law_467 rfl (by omega) (by omega) ?_
  refine am_callV (q := 471) (As := [.int (iZ ((xs (i + 1)).toInt)), .int (iZ ((xs (i + 2)).toInt))]) (rest := []) C mb_X10_ways im_X10_ways se_X10_ways ml_L_55 cb_10 kk_0 (show 0 < 215 by decide) dL_law_468 rfl (sp_X10_ways hC (rg_x _) (rg_x _)) rfl rfl ⟨by omega, by omega⟩ ⟨hc, hn⟩ (Nat.le_of_ble_eq_true rfl) (am_rl (fun v1 w' hw' => ?_))
  obtain ⟨e1, I1, J1, rfl, hC1, fC⟩ := hw'
  have hM1 := atM_frC hM fC
  refine am_aload_n (q := 472) C dL_law_471 rfl rfl ?_
  refine am_aload_n (q := 473) C dL_law_472 rfl rfl ?_
  refine am_iload_n (q := 474) C dL_law_473 rfl rfl ?_
  refine am_iconst (q := 475) (v := iZ 1) C dL_law_474 rfl rfl ?_
  refine am_iaddZ (q := 476) C dL_law_475 rfl ?_
  refine am_sld (q := 477) (k := i + 1) C hX dL_law_476 rfl (by omega) (by omega) ?_
  refine am_aload_n (q := 478) C dL_law_477 rfl rfl ?_
  refine am_iload_n (q := 479) C dL_law_478 rfl rfl ?_
  refine am_iconst (q := 480) (v := iZ 2) C dL_law_479 rfl rfl ?_
  refine am_iaddZ (q := 481) C dL_law_480 rfl ?_
  refine am_sld (q := 482) (k := i + 2) C hX dL_law_481 rfl (by omega) (by omega) ?_
  refine am_callV (q := 485) (As := [.int (iZ ((xs (i + 1)).toInt)), .int (iZ ((xs (i + 2)).toInt))]) (rest := [.long v1]) C mb_X11_ways im_X11_ways se_X11_ways ml_L_59 cb_11 kk_191 (show 191 < 215 by decide) dL_law_482 rfl (sp_X11_ways hM1 (rg_x _) (rg_x _)) rfl rfl ⟨by omega, by omega⟩ ⟨hc, hn⟩ (Nat.le_of_ble_eq_true rfl) (am_rl (fun v2 w' hw' => ?_))
  obtain ⟨e2, I2, J2, rfl, hM2, fM⟩ := hw'
  have hC2 := atC_frM hC1 fM
  refine am_lcmp (q := 486) C dL_law_485 rfl ?_
  refine am_if_eq (q := 489) (tgt := 1305) C dL_law_486 (by decide) rfl (fun c1 => ?_) (fun c1 => ?_)
  · have c1 := (lg_cmp_eq v1 v2).mp c1
    exact nx _ _ _ hC2 hM2
  · have c1 : ¬ (_) := fun z => c1 ((lg_cmp_eq v1 v2).mpr z)
    first | exact icmp_same e1 e2 (by assumption) | exact lcmp_same e1 e2 (by assumption) | exact lcmp_same e1 e2 (fun z => (show ¬ lg_cmp v1 v2 = 0 by assumption) ((lg_cmp_eq v1 v2).mpr z))
set_option maxRecDepth 4000 in
theorem cs_10 {X : am_X} {R : Room} {c n Ls i : Nat} {xs : Nat → Int32} {σ : SG} (C : am_C G mL_law X) (hX : scAt G X Ls xs) (hL : Ls ≤ 3072) (hi : i + 6 ≤ Ls) (hR1 : 400 ≤ R.frames) (hR2 : 64 * 400 ≤ R.locals) (hc : c + 0 ≤ R.cells) (hn : n + 0 ≤ R.slots) (hC : atC I J σ) (hM : atM I J σ) (nx : ∀ (σ' : SG) (I' : Nat → Nat → Int32) (J' : Nat → Nat → Int64), atC I' J' σ' → atM I' J' σ' → am_A G mL_law X R 1305 [some (.ref 1000021), some (.ref 0), some (.ref 191), some (.int (iZ (i : Int)))] [] (215, kK, kR, I', J') c n) : am_A G mL_law X R 491 [some (.ref 1000021), some (.ref 0), some (.ref 191), some (.int (iZ (i : Int)))] [] (215, kK, kR, I, J) c n := by
  refine am_aload_n (q := 492) C dL_law_491 rfl rfl ?_
  refine am_aload_n (q := 493) C dL_law_492 rfl rfl ?_
  refine am_iload_n (q := 494) C dL_law_493 rfl rfl ?_
  refine am_iconst (q := 495) (v := iZ 1) C dL_law_494 rfl rfl ?_
  refine am_iaddZ (q := 496) C dL_law_495 rfl ?_
  refine am_sld (q := 497) (k := i + 1) C hX dL_law_496 rfl (by omega) (by omega) ?_
  refine am_aload_n (q := 498) C dL_law_497 rfl rfl ?_
  refine am_iload_n (q := 499) C dL_law_498 rfl rfl ?_
  refine am_iconst (q := 500) (v := iZ 2) C dL_law_499 rfl rfl ?_
  refine am_iaddZ (q := 501) C dL_law_500 rfl ?_
  refine am_sld (q := 502) (k := i + 2) C hX dL_law_501 rfl (by omega) (by omega) ?_
  refine am_callV (q := 505) (As := [.int (iZ ((xs (i + 1)).toInt)), .int (iZ ((xs (i + 2)).toInt))]) (rest := []) C mb_X10_free im_X10_free se_X10_free ml_L_60 cb_10 kk_0 (show 0 < 215 by decide) dL_law_502 rfl (sp_X10_free hC (rg_x _) (rg_x _)) rfl rfl ⟨by omega, by omega⟩ ⟨hc, hn⟩ (Nat.le_of_ble_eq_true rfl) (am_rl (fun v1 w' hw' => ?_))
  obtain ⟨e1, I1, J1, rfl, hC1, fC⟩ := hw'
  have hM1 := atM_frC hM fC
  refine am_aload_n (q := 506) C dL_law_505 rfl rfl ?_
  refine am_aload_n (q := 507) C dL_law_506 rfl rfl ?_
  refine am_iload_n (q := 508) C dL_law_507 rfl rfl ?_
  refine am_iconst (q := 509) (v := iZ 1) C dL_law_508 rfl rfl ?_
  refine am_iaddZ (q := 510) C dL_law_509 rfl ?_
  refine am_sld (q := 511) (k := i + 1) C hX dL_law_510 rfl (by omega) (by omega) ?_
  refine am_aload_n (q := 512) C dL_law_511 rfl rfl ?_
  refine am_iload_n (q := 513) C dL_law_512 rfl rfl ?_
  refine am_iconst (q := 514) (v := iZ 2) C dL_law_513 rfl rfl ?_
  refine am_iaddZ (q := 515) C dL_law_514 rfl ?_
  refine am_sld (q := 516) (k := i + 2) C hX dL_law_515 rfl (by omega) (by omega) ?_
  refine am_callV (q := 519) (As := [.int (iZ ((xs (i + 1)).toInt)), .int (iZ ((xs (i + 2)).toInt))]) (rest := [.long v1]) C mb_X11_free im_X11_free se_X11_free ml_L_63 cb_11 kk_191 (show 191 < 215 by decide) dL_law_516 rfl (sp_X11_free hM1 (rg_x _) (rg_x _)) rfl rfl ⟨by omega, by omega⟩ ⟨hc, hn⟩ (Nat.le_of_ble_eq_true rfl) (am_rl (fun v2 w' hw' => ?_))
  obtain ⟨e2, I2, J2, rfl, hM2, fM⟩ := hw'
  have hC2 := atC_frM hC1 fM
  refine am_lcmp (q := 520) C dL_law_519 rfl ?_
  refine am_if_eq (q := 523) (tgt := 1305) C dL_law_520 (by decide) rfl (fun c1 => ?_) (fun c1 => ?_)
  · have c1 := (lg_cmp_eq v1 v2).mp c1
    exact nx _ _ _ hC2 hM2
  · have c1 : ¬ (_) := fun z => c1 ((lg_cmp_eq v1 v2).mpr z)
    first | exact icmp_same e1 e2 (by assumption) | exact lcmp_same e1 e2 (by assumption) | exact lcmp_same e1 e2 (fun z => (show ¬ lg_cmp v1 v2 = 0 by assumption) ((lg_cmp_eq v1 v2).mpr z))
set_option maxRecDepth 4000 in
theorem cs_11 {X : am_X} {R : Room} {c n Ls i : Nat} {xs : Nat → Int32} {σ : SG} (C : am_C G mL_law X) (hX : scAt G X Ls xs) (hL : Ls ≤ 3072) (hi : i + 6 ≤ Ls) (hR1 : 400 ≤ R.frames) (hR2 : 64 * 400 ≤ R.locals) (hc : c + 0 ≤ R.cells) (hn : n + 0 ≤ R.slots) (hC : atC I J σ) (hM : atM I J σ) (nx : ∀ (σ' : SG) (I' : Nat → Nat → Int32) (J' : Nat → Nat → Int64), atC I' J' σ' → atM I' J' σ' → am_A G mL_law X R 1305 [some (.ref 1000021), some (.ref 0), some (.ref 191), some (.int (iZ (i : Int)))] [] (215, kK, kR, I', J') c n) : am_A G mL_law X R 525 [some (.ref 1000021), some (.ref 0), some (.ref 191), some (.int (iZ (i : Int)))] [] (215, kK, kR, I, J) c n := by
  refine am_aload_n (q := 526) C dL_law_525 rfl rfl ?_
  refine am_aload_n (q := 527) C dL_law_526 rfl rfl ?_
  refine am_iload_n (q := 528) C dL_law_527 rfl rfl ?_
  refine am_iconst (q := 529) (v := iZ 1) C dL_law_528 rfl rfl ?_
  refine am_iaddZ (q := 530) C dL_law_529 rfl ?_
  refine am_sld (q := 531) (k := i + 1) C hX dL_law_530 rfl (by omega) (by omega) ?_
  refine am_aload_n (q := 532) C dL_law_531 rfl rfl ?_
  refine am_iload_n (q := 533) C dL_law_532 rfl rfl ?_
  refine am_iconst (q := 534) (v := iZ 2) C dL_law_533 rfl rfl ?_
  refine am_iaddZ (q := 535) C dL_law_534 rfl ?_
  refine am_sld (q := 536) (k := i + 2) C hX dL_law_535 rfl (by omega) (by omega) ?_
  refine am_callV (q := 539) (As := [.int (iZ ((xs (i + 1)).toInt)), .int (iZ ((xs (i + 2)).toInt))]) (rest := []) C mb_X10_strict im_X10_strict se_X10_strict ml_L_64 cb_10 kk_0 (show 0 < 215 by decide) dL_law_536 rfl (sp_X10_strict hC (rg_x _) (rg_x _)) rfl rfl ⟨by omega, by omega⟩ ⟨hc, hn⟩ (Nat.le_of_ble_eq_true rfl) (am_rl (fun v1 w' hw' => ?_))
  obtain ⟨e1, I1, J1, rfl, hC1, fC⟩ := hw'
  have hM1 := atM_frC hM fC
  refine am_aload_n (q := 540) C dL_law_539 rfl rfl ?_
  refine am_aload_n (q := 541) C dL_law_540 rfl rfl ?_
  refine am_iload_n (q := 542) C dL_law_541 rfl rfl ?_
  refine am_iconst (q := 543) (v := iZ 1) C dL_law_542 rfl rfl ?_
  refine am_iaddZ (q := 544) C dL_law_543 rfl ?_
  refine am_sld (q := 545) (k := i + 1) C hX dL_law_544 rfl (by omega) (by omega) ?_
  refine am_aload_n (q := 546) C dL_law_545 rfl rfl ?_
  refine am_iload_n (q := 547) C dL_law_546 rfl rfl ?_
  refine am_iconst (q := 548) (v := iZ 2) C dL_law_547 rfl rfl ?_
  refine am_iaddZ (q := 549) C dL_law_548 rfl ?_
  refine am_sld (q := 550) (k := i + 2) C hX dL_law_549 rfl (by omega) (by omega) ?_
  refine am_callV (q := 553) (As := [.int (iZ ((xs (i + 1)).toInt)), .int (iZ ((xs (i + 2)).toInt))]) (rest := [.long v1]) C mb_X11_strict im_X11_strict se_X11_strict ml_L_67 cb_11 kk_191 (show 191 < 215 by decide) dL_law_550 rfl (sp_X11_strict hM1 (rg_x _) (rg_x _)) rfl rfl ⟨by omega, by omega⟩ ⟨hc, hn⟩ (Nat.le_of_ble_eq_true rfl) (am_rl (fun v2 w' hw' => ?_))
  obtain ⟨e2, I2, J2, rfl, hM2, fM⟩ := hw'
  have hC2 := atC_frM hC1 fM
  refine am_lcmp (q := 554) C dL_law_553 rfl ?_
  refine am_if_eq (q := 557) (tgt := 1305) C dL_law_554 (by decide) rfl (fun c1 => ?_) (fun c1 => ?_)
  · have c1 := (lg_cmp_eq v1 v2).mp c1
    exact nx _ _ _ hC2 hM2
  · have c1 : ¬ (_) := fun z => c1 ((lg_cmp_eq v1 v2).mpr z)
    first | exact icmp_same e1 e2 (by assumption) | exact lcmp_same e1 e2 (by assumption) | exact lcmp_same e1 e2 (fun z => (show ¬ lg_cmp v1 v2 = 0 by assumption) ((lg_cmp_eq v1 v2).mpr z))
set_option maxRecDepth 4000 in
theorem cs_12 {X : am_X} {R : Room} {c n Ls i : Nat} {xs : Nat → Int32} {σ : SG} (C : am_C G mL_law X) (hX : scAt G X Ls xs) (hL : Ls ≤ 3072) (hi : i + 6 ≤ Ls) (hR1 : 400 ≤ R.frames) (hR2 : 64 * 400 ≤ R.locals) (hc : c + 0 ≤ R.cells) (hn : n + 0 ≤ R.slots) (hC : atC I J σ) (hM : atM I J σ) (nx : ∀ (σ' : SG) (I' : Nat → Nat → Int32) (J' : Nat → Nat → Int64), atC I' J' σ' → atM I' J' σ' → am_A G mL_law X R 1305 [some (.ref 1000021), some (.ref 0), some (.ref 191), some (.int (iZ (i : Int)))] [] (215, kK, kR, I', J') c n) : am_A G mL_law X R 559 [some (.ref 1000021), some (.ref 0), some (.ref 191), some (.int (iZ (i : Int)))] [] (215, kK, kR, I, J) c n := by
  refine am_aload_n (q := 560) C dL_law_559 rfl rfl ?_
  refine am_aload_n (q := 561) C dL_law_560 rfl rfl ?_
  refine am_iload_n (q := 562) C dL_law_561 rfl rfl ?_
  refine am_iconst (q := 563) (v := iZ 1) C dL_law_562 rfl rfl ?_
  refine am_iaddZ (q := 564) C dL_law_563 rfl ?_
  refine am_sld (q := 565) (k := i + 1) C hX dL_law_564 rfl (by omega) (by omega) ?_
  refine am_aload_n (q := 566) C dL_law_565 rfl rfl ?_
  refine am_iload_n (q := 567) C dL_law_566 rfl rfl ?_
  refine am_iconst (q := 568) (v := iZ 2) C dL_law_567 rfl rfl ?_
  refine am_iaddZ (q := 569) C dL_law_568 rfl ?_
  refine am_sld (q := 570) (k := i + 2) C hX dL_law_569 rfl (by omega) (by omega) ?_
  refine am_aload_n (q := 571) C dL_law_570 rfl rfl ?_
  refine am_iload_n (q := 572) C dL_law_571 rfl rfl ?_
  refine am_iconst (q := 573) (v := iZ 3) C dL_law_572 rfl rfl ?_
  refine am_iaddZ (q := 574) C dL_law_573 rfl ?_
  refine am_sld (q := 575) (k := i + 3) C hX dL_law_574 rfl (by omega) (by omega) ?_
  refine am_aload_n (q := 576) C dL_law_575 rfl rfl ?_
  refine am_iload_n (q := 577) C dL_law_576 rfl rfl ?_
  refine am_iconst (q := 578) (v := iZ 4) C dL_law_577 rfl rfl ?_
  refine am_iaddZ (q := 579) C dL_law_578 rfl ?_
  refine am_sld (q := 580) (k := i + 4) C hX dL_law_579 rfl (by omega) (by omega) ?_
  refine am_callV (q := 583) (As := [.int (iZ ((xs (i + 1)).toInt)), .int (iZ ((xs (i + 2)).toInt)), .int (iZ ((xs (i + 3)).toInt)), .int (iZ ((xs (i + 4)).toInt))]) (rest := []) C mb_X10_way im_X10_way se_X10_way ml_L_68 cb_10 kk_0 (show 0 < 215 by decide) dL_law_580 rfl (sp_X10_way hC (rg_x _) (rg_x _) (rg_x _) (rg_x _)) rfl rfl ⟨by omega, by omega⟩ ⟨hc, hn⟩ (Nat.le_of_ble_eq_true rfl) (am_ri (fun v1 w' hw' => ?_))
  obtain ⟨e1, I1, J1, rfl, hC1, fC⟩ := hw'
  have hM1 := atM_frC hM fC
  refine am_aload_n (q := 584) C dL_law_583 rfl rfl ?_
  refine am_aload_n (q := 585) C dL_law_584 rfl rfl ?_
  refine am_iload_n (q := 586) C dL_law_585 rfl rfl ?_
  refine am_iconst (q := 587) (v := iZ 1) C dL_law_586 rfl rfl ?_
  refine am_iaddZ (q := 588) C dL_law_587 rfl ?_
  refine am_sld (q := 589) (k := i + 1) C hX dL_law_588 rfl (by omega) (by omega) ?_
  refine am_aload_n (q := 590) C dL_law_589 rfl rfl ?_
  refine am_iload_n (q := 591) C dL_law_590 rfl rfl ?_
  refine am_iconst (q := 592) (v := iZ 2) C dL_law_591 rfl rfl ?_
  refine am_iaddZ (q := 593) C dL_law_592 rfl ?_
  refine am_sld (q := 594) (k := i + 2) C hX dL_law_593 rfl (by omega) (by omega) ?_
  refine am_aload_n (q := 595) C dL_law_594 rfl rfl ?_
  refine am_iload_n (q := 596) C dL_law_595 rfl rfl ?_
  refine am_iconst (q := 597) (v := iZ 3) C dL_law_596 rfl rfl ?_
  refine am_iaddZ (q := 598) C dL_law_597 rfl ?_
  refine am_sld (q := 599) (k := i + 3) C hX dL_law_598 rfl (by omega) (by omega) ?_
  refine am_aload_n (q := 600) C dL_law_599 rfl rfl ?_
  refine am_iload_n (q := 601) C dL_law_600 rfl rfl ?_
  refine am_iconst (q := 602) (v := iZ 4) C dL_law_601 rfl rfl ?_
  refine am_iaddZ (q := 603) C dL_law_602 rfl ?_
  refine am_sld (q := 604) (k := i + 4) C hX dL_law_603 rfl (by omega) (by omega) ?_
  refine am_callV (q := 607) (As := [.int (iZ ((xs (i + 1)).toInt)), .int (iZ ((xs (i + 2)).toInt)), .int (iZ ((xs (i + 3)).toInt)), .int (iZ ((xs (i + 4)).toInt))]) (rest := [.int v1]) C mb_X11_way im_X11_way se_X11_way ml_L_72 cb_11 kk_191 (show 191 < 215 by decide) dL_law_604 rfl (sp_X11_way hM1 (rg_x _) (rg_x _) (rg_x _) (rg_x _)) rfl rfl ⟨by omega, by omega⟩ ⟨hc, hn⟩ (Nat.le_of_ble_eq_true rfl) (am_ri (fun v2 w' hw' => ?_))
  obtain ⟨e2, I2, J2, rfl, hM2, fM⟩ := hw'
  have hC2 := atC_frM hC1 fM
  refine am_icmp_eq (q := 610) (tgt := 1305) C dL_law_607 (by decide) rfl (fun c1 => ?_) (fun c1 => ?_)
  · exact nx _ _ _ hC2 hM2
  · first | exact icmp_same e1 e2 (by assumption) | exact lcmp_same e1 e2 (by assumption) | exact lcmp_same e1 e2 (fun z => (show ¬ lg_cmp v1 v2 = 0 by assumption) ((lg_cmp_eq v1 v2).mpr z))
set_option maxRecDepth 4000 in
theorem cs_13 {X : am_X} {R : Room} {c n Ls i : Nat} {xs : Nat → Int32} {σ : SG} (C : am_C G mL_law X) (hX : scAt G X Ls xs) (hL : Ls ≤ 3072) (hi : i + 6 ≤ Ls) (hR1 : 400 ≤ R.frames) (hR2 : 64 * 400 ≤ R.locals) (hc : c + 0 ≤ R.cells) (hn : n + 0 ≤ R.slots) (hC : atC I J σ) (hM : atM I J σ) (nx : ∀ (σ' : SG) (I' : Nat → Nat → Int32) (J' : Nat → Nat → Int64), atC I' J' σ' → atM I' J' σ' → am_A G mL_law X R 1305 [some (.ref 1000021), some (.ref 0), some (.ref 191), some (.int (iZ (i : Int)))] [] (215, kK, kR, I', J') c n) : am_A G mL_law X R 612 [some (.ref 1000021), some (.ref 0), some (.ref 191), some (.int (iZ (i : Int)))] [] (215, kK, kR, I, J) c n := by
  refine am_aload_n (q := 613) C dL_law_612 rfl rfl ?_
  refine am_aload_n (q := 614) C dL_law_613 rfl rfl ?_
  refine am_iload_n (q := 615) C dL_law_614 rfl rfl ?_
  refine am_iconst (q := 616) (v := iZ 1) C dL_law_615 rfl rfl ?_
  refine am_iaddZ (q := 617) C dL_law_616 rfl ?_
  refine am_sld (q := 618) (k := i + 1) C hX dL_law_617 rfl (by omega) (by omega) ?_
  refine am_aload_n (q := 619) C dL_law_618 rfl rfl ?_
  refine am_iload_n (q := 620) C dL_law_619 rfl rfl ?_
  refine am_iconst (q := 621) (v := iZ 2) C dL_law_620 rfl rfl ?_
  refine am_iaddZ (q := 622) C dL_law_621 rfl ?_
  refine am_sld (q := 623) (k := i + 2) C hX dL_law_622 rfl (by omega) (by omega) ?_
  refine am_aload_n (q := 624) C dL_law_623 rfl rfl ?_
  refine am_iload_n (q := 625) C dL_law_624 rfl rfl ?_
  refine am_iconst (q := 626) (v := iZ 3) C dL_law_625 rfl rfl ?_
  refine am_iaddZ (q := 627) C dL_law_626 rfl ?_
  refine am_sld (q := 628) (k := i + 3) C hX dL_law_627 rfl (by omega) (by omega) ?_
  refine am_callV (q := 631) (As := [.int (iZ ((xs (i + 1)).toInt)), .int (iZ ((xs (i + 2)).toInt)), .int (iZ ((xs (i + 3)).toInt))]) (rest := []) C mb_X10_fold im_X10_fold se_X10_fold ml_L_73 cb_10 kk_0 (show 0 < 215 by decide) dL_law_628 rfl (sp_X10_fold hC (rg_x _) (rg_x _) (rg_x _)) rfl rfl ⟨by omega, by omega⟩ ⟨hc, hn⟩ (Nat.le_of_ble_eq_true rfl) (am_rl (fun v1 w' hw' => ?_))
  obtain ⟨e1, I1, J1, rfl, hC1, fC⟩ := hw'
  have hM1 := atM_frC hM fC
  refine am_aload_n (q := 632) C dL_law_631 rfl rfl ?_
  refine am_aload_n (q := 633) C dL_law_632 rfl rfl ?_
  refine am_iload_n (q := 634) C dL_law_633 rfl rfl ?_
  refine am_iconst (q := 635) (v := iZ 1) C dL_law_634 rfl rfl ?_
  refine am_iaddZ (q := 636) C dL_law_635 rfl ?_
  refine am_sld (q := 637) (k := i + 1) C hX dL_law_636 rfl (by omega) (by omega) ?_
  refine am_aload_n (q := 638) C dL_law_637 rfl rfl ?_
  refine am_iload_n (q := 639) C dL_law_638 rfl rfl ?_
  refine am_iconst (q := 640) (v := iZ 2) C dL_law_639 rfl rfl ?_
  refine am_iaddZ (q := 641) C dL_law_640 rfl ?_
  refine am_sld (q := 642) (k := i + 2) C hX dL_law_641 rfl (by omega) (by omega) ?_
  refine am_aload_n (q := 643) C dL_law_642 rfl rfl ?_
  refine am_iload_n (q := 644) C dL_law_643 rfl rfl ?_
  refine am_iconst (q := 645) (v := iZ 3) C dL_law_644 rfl rfl ?_
  refine am_iaddZ (q := 646) C dL_law_645 rfl ?_
  refine am_sld (q := 647) (k := i + 3) C hX dL_law_646 rfl (by omega) (by omega) ?_
  refine am_callV (q := 650) (As := [.int (iZ ((xs (i + 1)).toInt)), .int (iZ ((xs (i + 2)).toInt)), .int (iZ ((xs (i + 3)).toInt))]) (rest := [.long v1]) C mb_X11_fold im_X11_fold se_X11_fold ml_L_77 cb_11 kk_191 (show 191 < 215 by decide) dL_law_647 rfl (sp_X11_fold hM1 (rg_x _) (rg_x _) (rg_x _)) rfl rfl ⟨by omega, by omega⟩ ⟨hc, hn⟩ (Nat.le_of_ble_eq_true rfl) (am_rl (fun v2 w' hw' => ?_))
  obtain ⟨e2, I2, J2, rfl, hM2, fM⟩ := hw'
  have hC2 := atC_frM hC1 fM
  refine am_lcmp (q := 651) C dL_law_650 rfl ?_
  refine am_if_eq (q := 654) (tgt := 1305) C dL_law_651 (by decide) rfl (fun c1 => ?_) (fun c1 => ?_)
  · have c1 := (lg_cmp_eq v1 v2).mp c1
    exact nx _ _ _ hC2 hM2
  · have c1 : ¬ (_) := fun z => c1 ((lg_cmp_eq v1 v2).mpr z)
    first | exact icmp_same e1 e2 (by assumption) | exact lcmp_same e1 e2 (by assumption) | exact lcmp_same e1 e2 (fun z => (show ¬ lg_cmp v1 v2 = 0 by assumption) ((lg_cmp_eq v1 v2).mpr z))
set_option maxRecDepth 4000 in
theorem cs_14 {X : am_X} {R : Room} {c n Ls i : Nat} {xs : Nat → Int32} {σ : SG} (C : am_C G mL_law X) (hX : scAt G X Ls xs) (hL : Ls ≤ 3072) (hi : i + 6 ≤ Ls) (hR1 : 400 ≤ R.frames) (hR2 : 64 * 400 ≤ R.locals) (hc : c + 0 ≤ R.cells) (hn : n + 0 ≤ R.slots) (hC : atC I J σ) (hM : atM I J σ) (nx : ∀ (σ' : SG) (I' : Nat → Nat → Int32) (J' : Nat → Nat → Int64), atC I' J' σ' → atM I' J' σ' → am_A G mL_law X R 1305 [some (.ref 1000021), some (.ref 0), some (.ref 191), some (.int (iZ (i : Int)))] [] (215, kK, kR, I', J') c n) : am_A G mL_law X R 656 [some (.ref 1000021), some (.ref 0), some (.ref 191), some (.int (iZ (i : Int)))] [] (215, kK, kR, I, J) c n := by
  refine am_aload_n (q := 657) C dL_law_656 rfl rfl ?_
  refine am_aload_n (q := 658) C dL_law_657 rfl rfl ?_
  refine am_iload_n (q := 659) C dL_law_658 rfl rfl ?_
  refine am_iconst (q := 660) (v := iZ 1) C dL_law_659 rfl rfl ?_
  refine am_iaddZ (q := 661) C dL_law_660 rfl ?_
  refine am_sld (q := 662) (k := i + 1) C hX dL_law_661 rfl (by omega) (by omega) ?_
  refine am_aload_n (q := 663) C dL_law_662 rfl rfl ?_
  refine am_iload_n (q := 664) C dL_law_663 rfl rfl ?_
  refine am_iconst (q := 665) (v := iZ 2) C dL_law_664 rfl rfl ?_
  refine am_iaddZ (q := 666) C dL_law_665 rfl ?_
  refine am_sld (q := 667) (k := i + 2) C hX dL_law_666 rfl (by omega) (by omega) ?_
  refine am_callV (q := 670) (As := [.int (iZ ((xs (i + 1)).toInt)), .int (iZ ((xs (i + 2)).toInt))]) (rest := []) C mb_X10_ray im_X10_ray se_X10_ray ml_L_78 cb_10 kk_0 (show 0 < 215 by decide) dL_law_667 rfl (sp_X10_ray hC (rg_x _) (rg_x _)) rfl rfl ⟨by omega, by omega⟩ ⟨hc, hn⟩ (Nat.le_of_ble_eq_true rfl) (am_ri (fun v1 w' hw' => ?_))
  obtain ⟨e1, I1, J1, rfl, hC1, fC⟩ := hw'
  have hM1 := atM_frC hM fC
  refine am_aload_n (q := 671) C dL_law_670 rfl rfl ?_
  refine am_aload_n (q := 672) C dL_law_671 rfl rfl ?_
  refine am_iload_n (q := 673) C dL_law_672 rfl rfl ?_
  refine am_iconst (q := 674) (v := iZ 1) C dL_law_673 rfl rfl ?_
  refine am_iaddZ (q := 675) C dL_law_674 rfl ?_
  refine am_sld (q := 676) (k := i + 1) C hX dL_law_675 rfl (by omega) (by omega) ?_
  refine am_aload_n (q := 677) C dL_law_676 rfl rfl ?_
  refine am_iload_n (q := 678) C dL_law_677 rfl rfl ?_
  refine am_iconst (q := 679) (v := iZ 2) C dL_law_678 rfl rfl ?_
  refine am_iaddZ (q := 680) C dL_law_679 rfl ?_
  refine am_sld (q := 681) (k := i + 2) C hX dL_law_680 rfl (by omega) (by omega) ?_
  refine am_callV (q := 684) (As := [.int (iZ ((xs (i + 1)).toInt)), .int (iZ ((xs (i + 2)).toInt))]) (rest := [.int v1]) C mb_X11_ray im_X11_ray se_X11_ray ml_L_81 cb_11 kk_191 (show 191 < 215 by decide) dL_law_681 rfl (sp_X11_ray hM1 (rg_x _) (rg_x _)) rfl rfl ⟨by omega, by omega⟩ ⟨hc, hn⟩ (Nat.le_of_ble_eq_true rfl) (am_ri (fun v2 w' hw' => ?_))
  obtain ⟨e2, I2, J2, rfl, hM2, fM⟩ := hw'
  have hC2 := atC_frM hC1 fM
  refine am_icmp_eq (q := 687) (tgt := 1305) C dL_law_684 (by decide) rfl (fun c1 => ?_) (fun c1 => ?_)
  · exact nx _ _ _ hC2 hM2
  · first | exact icmp_same e1 e2 (by assumption) | exact lcmp_same e1 e2 (by assumption) | exact lcmp_same e1 e2 (fun z => (show ¬ lg_cmp v1 v2 = 0 by assumption) ((lg_cmp_eq v1 v2).mpr z))
set_option maxRecDepth 4000 in
theorem cs_15 {X : am_X} {R : Room} {c n Ls i : Nat} {xs : Nat → Int32} {σ : SG} (C : am_C G mL_law X) (hX : scAt G X Ls xs) (hL : Ls ≤ 3072) (hi : i + 6 ≤ Ls) (hR1 : 400 ≤ R.frames) (hR2 : 64 * 400 ≤ R.locals) (hc : c + 0 ≤ R.cells) (hn : n + 0 ≤ R.slots) (hC : atC I J σ) (hM : atM I J σ) (nx : ∀ (σ' : SG) (I' : Nat → Nat → Int32) (J' : Nat → Nat → Int64), atC I' J' σ' → atM I' J' σ' → am_A G mL_law X R 1305 [some (.ref 1000021), some (.ref 0), some (.ref 191), some (.int (iZ (i : Int)))] [] (215, kK, kR, I', J') c n) : am_A G mL_law X R 689 [some (.ref 1000021), some (.ref 0), some (.ref 191), some (.int (iZ (i : Int)))] [] (215, kK, kR, I, J) c n := by
  refine am_aload_n (q := 690) C dL_law_689 rfl rfl ?_
  refine am_callV (q := 693) (As := []) (rest := []) C mb_X10_period im_X10_period se_X10_period ml_L_82 cb_10 kk_0 (show 0 < 215 by decide) dL_law_690 rfl (sp_X10_period hC) rfl rfl ⟨by omega, by omega⟩ ⟨hc, hn⟩ (Nat.le_of_ble_eq_true rfl) (am_ri (fun v1 w' hw' => ?_))
  obtain ⟨e1, I1, J1, rfl, hC1, fC⟩ := hw'
  have hM1 := atM_frC hM fC
  refine am_aload_n (q := 694) C dL_law_693 rfl rfl ?_
  refine am_callV (q := 697) (As := []) (rest := [.int v1]) C mb_X11_period im_X11_period se_X11_period ml_L_85 cb_11 kk_191 (show 191 < 215 by decide) dL_law_694 rfl (sp_X11_period hM1) rfl rfl ⟨by omega, by omega⟩ ⟨hc, hn⟩ (Nat.le_of_ble_eq_true rfl) (am_ri (fun v2 w' hw' => ?_))
  obtain ⟨e2, I2, J2, rfl, hM2, fM⟩ := hw'
  have hC2 := atC_frM hC1 fM
  refine am_icmp_eq (q := 700) (tgt := 1305) C dL_law_697 (by decide) rfl (fun c1 => ?_) (fun c1 => ?_)
  · exact nx _ _ _ hC2 hM2
  · first | exact icmp_same e1 e2 (by assumption) | exact lcmp_same e1 e2 (by assumption) | exact lcmp_same e1 e2 (fun z => (show ¬ lg_cmp v1 v2 = 0 by assumption) ((lg_cmp_eq v1 v2).mpr z))
set_option maxRecDepth 4000 in
theorem cs_16 {X : am_X} {R : Room} {c n Ls i : Nat} {xs : Nat → Int32} {σ : SG} (C : am_C G mL_law X) (hX : scAt G X Ls xs) (hL : Ls ≤ 3072) (hi : i + 6 ≤ Ls) (hR1 : 400 ≤ R.frames) (hR2 : 64 * 400 ≤ R.locals) (hc : c + 0 ≤ R.cells) (hn : n + 0 ≤ R.slots) (hC : atC I J σ) (hM : atM I J σ) (nx : ∀ (σ' : SG) (I' : Nat → Nat → Int32) (J' : Nat → Nat → Int64), atC I' J' σ' → atM I' J' σ' → am_A G mL_law X R 1305 [some (.ref 1000021), some (.ref 0), some (.ref 191), some (.int (iZ (i : Int)))] [] (215, kK, kR, I', J') c n) : am_A G mL_law X R 702 [some (.ref 1000021), some (.ref 0), some (.ref 191), some (.int (iZ (i : Int)))] [] (215, kK, kR, I, J) c n := by
  refine am_aload_n (q := 703) C dL_law_702 rfl rfl ?_
  refine am_callV (q := 706) (As := []) (rest := []) C mb_X10_unit im_X10_unit se_X10_unit ml_L_86 cb_10 kk_0 (show 0 < 215 by decide) dL_law_703 rfl (sp_X10_unit hC) rfl rfl ⟨by omega, by omega⟩ ⟨hc, hn⟩ (Nat.le_of_ble_eq_true rfl) (am_ri (fun v1 w' hw' => ?_))
  obtain ⟨e1, I1, J1, rfl, hC1, fC⟩ := hw'
  have hM1 := atM_frC hM fC
  refine am_aload_n (q := 707) C dL_law_706 rfl rfl ?_
  refine am_callV (q := 710) (As := []) (rest := [.int v1]) C mb_X11_unit im_X11_unit se_X11_unit ml_L_89 cb_11 kk_191 (show 191 < 215 by decide) dL_law_707 rfl (sp_X11_unit hM1) rfl rfl ⟨by omega, by omega⟩ ⟨hc, hn⟩ (Nat.le_of_ble_eq_true rfl) (am_ri (fun v2 w' hw' => ?_))
  obtain ⟨e2, I2, J2, rfl, hM2, fM⟩ := hw'
  have hC2 := atC_frM hC1 fM
  refine am_icmp_eq (q := 713) (tgt := 1305) C dL_law_710 (by decide) rfl (fun c1 => ?_) (fun c1 => ?_)
  · exact nx _ _ _ hC2 hM2
  · first | exact icmp_same e1 e2 (by assumption) | exact lcmp_same e1 e2 (by assumption) | exact lcmp_same e1 e2 (fun z => (show ¬ lg_cmp v1 v2 = 0 by assumption) ((lg_cmp_eq v1 v2).mpr z))
set_option maxRecDepth 4000 in
theorem cs_17 {X : am_X} {R : Room} {c n Ls i : Nat} {xs : Nat → Int32} {σ : SG} (C : am_C G mL_law X) (hX : scAt G X Ls xs) (hL : Ls ≤ 3072) (hi : i + 6 ≤ Ls) (hR1 : 400 ≤ R.frames) (hR2 : 64 * 400 ≤ R.locals) (hc : c + 0 ≤ R.cells) (hn : n + 0 ≤ R.slots) (hC : atC I J σ) (hM : atM I J σ) (nx : ∀ (σ' : SG) (I' : Nat → Nat → Int32) (J' : Nat → Nat → Int64), atC I' J' σ' → atM I' J' σ' → am_A G mL_law X R 1305 [some (.ref 1000021), some (.ref 0), some (.ref 191), some (.int (iZ (i : Int)))] [] (215, kK, kR, I', J') c n) : am_A G mL_law X R 715 [some (.ref 1000021), some (.ref 0), some (.ref 191), some (.int (iZ (i : Int)))] [] (215, kK, kR, I, J) c n := by
  refine am_aload_n (q := 716) C dL_law_715 rfl rfl ?_
  refine am_aload_n (q := 717) C dL_law_716 rfl rfl ?_
  refine am_iload_n (q := 718) C dL_law_717 rfl rfl ?_
  refine am_iconst (q := 719) (v := iZ 1) C dL_law_718 rfl rfl ?_
  refine am_iaddZ (q := 720) C dL_law_719 rfl ?_
  refine am_sld (q := 721) (k := i + 1) C hX dL_law_720 rfl (by omega) (by omega) ?_
  refine am_aload_n (q := 722) C dL_law_721 rfl rfl ?_
  refine am_iload_n (q := 723) C dL_law_722 rfl rfl ?_
  refine am_iconst (q := 724) (v := iZ 2) C dL_law_723 rfl rfl ?_
  refine am_iaddZ (q := 725) C dL_law_724 rfl ?_
  refine am_sld (q := 726) (k := i + 2) C hX dL_law_725 rfl (by omega) (by omega) ?_
  refine am_callV (q := 729) (As := [.int (iZ ((xs (i + 1)).toInt)), .int (iZ ((xs (i + 2)).toInt))]) (rest := []) C mb_X10_chamberOf im_X10_chamberOf se_X10_chamberOf ml_L_90 cb_10 kk_0 (show 0 < 215 by decide) dL_law_726 rfl (sp_X10_chamberOf hC (rg_x _) (rg_x _)) rfl rfl ⟨by omega, by omega⟩ ⟨hc, hn⟩ (Nat.le_of_ble_eq_true rfl) (am_ri (fun v1 w' hw' => ?_))
  obtain ⟨e1, I1, J1, rfl, hC1, fC⟩ := hw'
  have hM1 := atM_frC hM fC
  refine am_aload_n (q := 730) C dL_law_729 rfl rfl ?_
  refine am_aload_n (q := 731) C dL_law_730 rfl rfl ?_
  refine am_iload_n (q := 732) C dL_law_731 rfl rfl ?_
  refine am_iconst (q := 733) (v := iZ 1) C dL_law_732 rfl rfl ?_
  refine am_iaddZ (q := 734) C dL_law_733 rfl ?_
  refine am_sld (q := 735) (k := i + 1) C hX dL_law_734 rfl (by omega) (by omega) ?_
  refine am_aload_n (q := 736) C dL_law_735 rfl rfl ?_
  refine am_iload_n (q := 737) C dL_law_736 rfl rfl ?_
  refine am_iconst (q := 738) (v := iZ 2) C dL_law_737 rfl rfl ?_
  refine am_iaddZ (q := 739) C dL_law_738 rfl ?_
  refine am_sld (q := 740) (k := i + 2) C hX dL_law_739 rfl (by omega) (by omega) ?_
  refine am_callV (q := 743) (As := [.int (iZ ((xs (i + 1)).toInt)), .int (iZ ((xs (i + 2)).toInt))]) (rest := [.int v1]) C mb_X11_chamberOf im_X11_chamberOf se_X11_chamberOf ml_L_93 cb_11 kk_191 (show 191 < 215 by decide) dL_law_740 rfl (sp_X11_chamberOf hM1 (rg_x _) (rg_x _)) rfl rfl ⟨by omega, by omega⟩ ⟨hc, hn⟩ (Nat.le_of_ble_eq_true rfl) (am_ri (fun v2 w' hw' => ?_))
  obtain ⟨e2, I2, J2, rfl, hM2, fM⟩ := hw'
  have hC2 := atC_frM hC1 fM
  refine am_icmp_eq (q := 746) (tgt := 1305) C dL_law_743 (by decide) rfl (fun c1 => ?_) (fun c1 => ?_)
  · exact nx _ _ _ hC2 hM2
  · first | exact icmp_same e1 e2 (by assumption) | exact lcmp_same e1 e2 (by assumption) | exact lcmp_same e1 e2 (fun z => (show ¬ lg_cmp v1 v2 = 0 by assumption) ((lg_cmp_eq v1 v2).mpr z))
set_option maxRecDepth 4000 in
theorem cs_18 {X : am_X} {R : Room} {c n Ls i : Nat} {xs : Nat → Int32} {σ : SG} (C : am_C G mL_law X) (hX : scAt G X Ls xs) (hL : Ls ≤ 3072) (hi : i + 6 ≤ Ls) (hR1 : 400 ≤ R.frames) (hR2 : 64 * 400 ≤ R.locals) (hc : c + 0 ≤ R.cells) (hn : n + 0 ≤ R.slots) (hC : atC I J σ) (hM : atM I J σ) (nx : ∀ (σ' : SG) (I' : Nat → Nat → Int32) (J' : Nat → Nat → Int64), atC I' J' σ' → atM I' J' σ' → am_A G mL_law X R 1305 [some (.ref 1000021), some (.ref 0), some (.ref 191), some (.int (iZ (i : Int)))] [] (215, kK, kR, I', J') c n) : am_A G mL_law X R 748 [some (.ref 1000021), some (.ref 0), some (.ref 191), some (.int (iZ (i : Int)))] [] (215, kK, kR, I, J) c n := by
  refine am_aload_n (q := 749) C dL_law_748 rfl rfl ?_
  refine am_aload_n (q := 750) C dL_law_749 rfl rfl ?_
  refine am_iload_n (q := 751) C dL_law_750 rfl rfl ?_
  refine am_iconst (q := 752) (v := iZ 1) C dL_law_751 rfl rfl ?_
  refine am_iaddZ (q := 753) C dL_law_752 rfl ?_
  refine am_sld (q := 754) (k := i + 1) C hX dL_law_753 rfl (by omega) (by omega) ?_
  refine am_aload_n (q := 755) C dL_law_754 rfl rfl ?_
  refine am_iload_n (q := 756) C dL_law_755 rfl rfl ?_
  refine am_iconst (q := 757) (v := iZ 2) C dL_law_756 rfl rfl ?_
  refine am_iaddZ (q := 758) C dL_law_757 rfl ?_
  refine am_sld (q := 759) (k := i + 2) C hX dL_law_758 rfl (by omega) (by omega) ?_
  refine am_aload_n (q := 760) C dL_law_759 rfl rfl ?_
  refine am_iload_n (q := 761) C dL_law_760 rfl rfl ?_
  refine am_iconst (q := 762) (v := iZ 3) C dL_law_761 rfl rfl ?_
  refine am_iaddZ (q := 763) C dL_law_762 rfl ?_
  refine am_sld (q := 764) (k := i + 3) C hX dL_law_763 rfl (by omega) (by omega) ?_
  refine am_aload_n (q := 765) C dL_law_764 rfl rfl ?_
  refine am_iload_n (q := 766) C dL_law_765 rfl rfl ?_
  refine am_iconst (q := 767) (v := iZ 4) C dL_law_766 rfl rfl ?_
  refine am_iaddZ (q := 768) C dL_law_767 rfl ?_
  refine am_sld (q := 769) (k := i + 4) C hX dL_law_768 rfl (by omega) (by omega) ?_
  refine am_callV (q := 772) (As := [.int (iZ ((xs (i + 1)).toInt)), .int (iZ ((xs (i + 2)).toInt)), .int (iZ ((xs (i + 3)).toInt)), .int (iZ ((xs (i + 4)).toInt))]) (rest := []) C mb_X10_home im_X10_home se_X10_home ml_L_94 cb_10 kk_0 (show 0 < 215 by decide) dL_law_769 rfl (sp_X10_home hC (rg_x _) (rg_x _) (rg_x _) (rg_x _)) rfl rfl ⟨by omega, by omega⟩ ⟨hc, hn⟩ (Nat.le_of_ble_eq_true rfl) (am_ri (fun v1 w' hw' => ?_))
  obtain ⟨e1, I1, J1, rfl, hC1, fC⟩ := hw'
  have hM1 := atM_frC hM fC
  refine am_aload_n (q := 773) C dL_law_772 rfl rfl ?_
  refine am_aload_n (q := 774) C dL_law_773 rfl rfl ?_
  refine am_iload_n (q := 775) C dL_law_774 rfl rfl ?_
  refine am_iconst (q := 776) (v := iZ 1) C dL_law_775 rfl rfl ?_
  refine am_iaddZ (q := 777) C dL_law_776 rfl ?_
  refine am_sld (q := 778) (k := i + 1) C hX dL_law_777 rfl (by omega) (by omega) ?_
  refine am_aload_n (q := 779) C dL_law_778 rfl rfl ?_
  refine am_iload_n (q := 780) C dL_law_779 rfl rfl ?_
  refine am_iconst (q := 781) (v := iZ 2) C dL_law_780 rfl rfl ?_
  refine am_iaddZ (q := 782) C dL_law_781 rfl ?_
  refine am_sld (q := 783) (k := i + 2) C hX dL_law_782 rfl (by omega) (by omega) ?_
  refine am_aload_n (q := 784) C dL_law_783 rfl rfl ?_
  refine am_iload_n (q := 785) C dL_law_784 rfl rfl ?_
  refine am_iconst (q := 786) (v := iZ 3) C dL_law_785 rfl rfl ?_
  refine am_iaddZ (q := 787) C dL_law_786 rfl ?_
  refine am_sld (q := 788) (k := i + 3) C hX dL_law_787 rfl (by omega) (by omega) ?_
  refine am_aload_n (q := 789) C dL_law_788 rfl rfl ?_
  refine am_iload_n (q := 790) C dL_law_789 rfl rfl ?_
  refine am_iconst (q := 791) (v := iZ 4) C dL_law_790 rfl rfl ?_
  refine am_iaddZ (q := 792) C dL_law_791 rfl ?_
  refine am_sld (q := 793) (k := i + 4) C hX dL_law_792 rfl (by omega) (by omega) ?_
  refine am_callV (q := 796) (As := [.int (iZ ((xs (i + 1)).toInt)), .int (iZ ((xs (i + 2)).toInt)), .int (iZ ((xs (i + 3)).toInt)), .int (iZ ((xs (i + 4)).toInt))]) (rest := [.int v1]) C mb_X11_home im_X11_home se_X11_home ml_L_97 cb_11 kk_191 (show 191 < 215 by decide) dL_law_793 rfl (sp_X11_home hM1 (rg_x _) (rg_x _) (rg_x _) (rg_x _)) rfl rfl ⟨by omega, by omega⟩ ⟨hc, hn⟩ (Nat.le_of_ble_eq_true rfl) (am_ri (fun v2 w' hw' => ?_))
  obtain ⟨e2, I2, J2, rfl, hM2, fM⟩ := hw'
  have hC2 := atC_frM hC1 fM
  refine am_icmp_eq (q := 799) (tgt := 1305) C dL_law_796 (by decide) rfl (fun c1 => ?_) (fun c1 => ?_)
  · exact nx _ _ _ hC2 hM2
  · first | exact icmp_same e1 e2 (by assumption) | exact lcmp_same e1 e2 (by assumption) | exact lcmp_same e1 e2 (fun z => (show ¬ lg_cmp v1 v2 = 0 by assumption) ((lg_cmp_eq v1 v2).mpr z))
set_option maxRecDepth 4000 in
theorem cs_19 {X : am_X} {R : Room} {c n Ls i : Nat} {xs : Nat → Int32} {σ : SG} (C : am_C G mL_law X) (hX : scAt G X Ls xs) (hL : Ls ≤ 3072) (hi : i + 6 ≤ Ls) (hR1 : 400 ≤ R.frames) (hR2 : 64 * 400 ≤ R.locals) (hc : c + 0 ≤ R.cells) (hn : n + 0 ≤ R.slots) (hC : atC I J σ) (hM : atM I J σ) (nx : ∀ (σ' : SG) (I' : Nat → Nat → Int32) (J' : Nat → Nat → Int64), atC I' J' σ' → atM I' J' σ' → am_A G mL_law X R 1305 [some (.ref 1000021), some (.ref 0), some (.ref 191), some (.int (iZ (i : Int)))] [] (215, kK, kR, I', J') c n) : am_A G mL_law X R 801 [some (.ref 1000021), some (.ref 0), some (.ref 191), some (.int (iZ (i : Int)))] [] (215, kK, kR, I, J) c n := by
  refine am_aload_n (q := 802) C dL_law_801 rfl rfl ?_
  refine am_aload_n (q := 803) C dL_law_802 rfl rfl ?_
  refine am_iload_n (q := 804) C dL_law_803 rfl rfl ?_
  refine am_iconst (q := 805) (v := iZ 1) C dL_law_804 rfl rfl ?_
  refine am_iaddZ (q := 806) C dL_law_805 rfl ?_
  refine am_sld (q := 807) (k := i + 1) C hX dL_law_806 rfl (by omega) (by omega) ?_
  refine am_aload_n (q := 808) C dL_law_807 rfl rfl ?_
  refine am_iload_n (q := 809) C dL_law_808 rfl rfl ?_
  refine am_iconst (q := 810) (v := iZ 2) C dL_law_809 rfl rfl ?_
  refine am_iaddZ (q := 811) C dL_law_810 rfl ?_
  refine am_sld (q := 812) (k := i + 2) C hX dL_law_811 rfl (by omega) (by omega) ?_
  refine am_aload_n (q := 813) C dL_law_812 rfl rfl ?_
  refine am_iload_n (q := 814) C dL_law_813 rfl rfl ?_
  refine am_iconst (q := 815) (v := iZ 3) C dL_law_814 rfl rfl ?_
  refine am_iaddZ (q := 816) C dL_law_815 rfl ?_
  refine am_sld (q := 817) (k := i + 3) C hX dL_law_816 rfl (by omega) (by omega) ?_
  refine am_aload_n (q := 818) C dL_law_817 rfl rfl ?_
  refine am_iload_n (q := 819) C dL_law_818 rfl rfl ?_
  refine am_iconst (q := 820) (v := iZ 4) C dL_law_819 rfl rfl ?_
  refine am_iaddZ (q := 821) C dL_law_820 rfl ?_
  refine am_sld (q := 822) (k := i + 4) C hX dL_law_821 rfl (by omega) (by omega) ?_
  refine am_aload_n (q := 823) C dL_law_822 rfl rfl ?_
  refine am_iload_n (q := 824) C dL_law_823 rfl rfl ?_
  refine am_iconst (q := 825) (v := iZ 5) C dL_law_824 rfl rfl ?_
  refine am_iaddZ (q := 826) C dL_law_825 rfl ?_
  refine am_sld (q := 827) (k := i + 5) C hX dL_law_826 rfl (by omega) (by omega) ?_
  refine am_callV (q := 830) (As := [.int (iZ ((xs (i + 1)).toInt)), .int (iZ ((xs (i + 2)).toInt)), .int (iZ ((xs (i + 3)).toInt)), .int (iZ ((xs (i + 4)).toInt)), .int (iZ ((xs (i + 5)).toInt))]) (rest := []) C mb_X10_difference im_X10_difference se_X10_difference ml_L_98 cb_10 kk_0 (show 0 < 215 by decide) dL_law_827 rfl (sp_X10_difference hC (rg_x _) (rg_x _) (rg_x _) (rg_x _) (rg_x _)) rfl rfl ⟨by omega, by omega⟩ ⟨hc, hn⟩ (Nat.le_of_ble_eq_true rfl) (am_rl (fun v1 w' hw' => ?_))
  obtain ⟨e1, I1, J1, rfl, hC1, fC⟩ := hw'
  have hM1 := atM_frC hM fC
  refine am_aload_n (q := 831) C dL_law_830 rfl rfl ?_
  refine am_aload_n (q := 832) C dL_law_831 rfl rfl ?_
  refine am_iload_n (q := 833) C dL_law_832 rfl rfl ?_
  refine am_iconst (q := 834) (v := iZ 1) C dL_law_833 rfl rfl ?_
  refine am_iaddZ (q := 835) C dL_law_834 rfl ?_
  refine am_sld (q := 836) (k := i + 1) C hX dL_law_835 rfl (by omega) (by omega) ?_
  refine am_aload_n (q := 837) C dL_law_836 rfl rfl ?_
  refine am_iload_n (q := 838) C dL_law_837 rfl rfl ?_
  refine am_iconst (q := 839) (v := iZ 2) C dL_law_838 rfl rfl ?_
  refine am_iaddZ (q := 840) C dL_law_839 rfl ?_
  refine am_sld (q := 841) (k := i + 2) C hX dL_law_840 rfl (by omega) (by omega) ?_
  refine am_aload_n (q := 842) C dL_law_841 rfl rfl ?_
  refine am_iload_n (q := 843) C dL_law_842 rfl rfl ?_
  refine am_iconst (q := 844) (v := iZ 3) C dL_law_843 rfl rfl ?_
  refine am_iaddZ (q := 845) C dL_law_844 rfl ?_
  refine am_sld (q := 846) (k := i + 3) C hX dL_law_845 rfl (by omega) (by omega) ?_
  refine am_aload_n (q := 847) C dL_law_846 rfl rfl ?_
  refine am_iload_n (q := 848) C dL_law_847 rfl rfl ?_
  refine am_iconst (q := 849) (v := iZ 4) C dL_law_848 rfl rfl ?_
  refine am_iaddZ (q := 850) C dL_law_849 rfl ?_
  refine am_sld (q := 851) (k := i + 4) C hX dL_law_850 rfl (by omega) (by omega) ?_
  refine am_aload_n (q := 852) C dL_law_851 rfl rfl ?_
  refine am_iload_n (q := 853) C dL_law_852 rfl rfl ?_
  refine am_iconst (q := 854) (v := iZ 5) C dL_law_853 rfl rfl ?_
  refine am_iaddZ (q := 855) C dL_law_854 rfl ?_
  refine am_sld (q := 856) (k := i + 5) C hX dL_law_855 rfl (by omega) (by omega) ?_
  refine am_callV (q := 859) (As := [.int (iZ ((xs (i + 1)).toInt)), .int (iZ ((xs (i + 2)).toInt)), .int (iZ ((xs (i + 3)).toInt)), .int (iZ ((xs (i + 4)).toInt)), .int (iZ ((xs (i + 5)).toInt))]) (rest := [.long v1]) C mb_X11_difference im_X11_difference se_X11_difference ml_L_102 cb_11 kk_191 (show 191 < 215 by decide) dL_law_856 rfl (sp_X11_difference hM1 (rg_x _) (rg_x _) (rg_x _) (rg_x _) (rg_x _)) rfl rfl ⟨by omega, by omega⟩ ⟨hc, hn⟩ (Nat.le_of_ble_eq_true rfl) (am_rl (fun v2 w' hw' => ?_))
  obtain ⟨e2, I2, J2, rfl, hM2, fM⟩ := hw'
  have hC2 := atC_frM hC1 fM
  refine am_lcmp (q := 860) C dL_law_859 rfl ?_
  refine am_if_eq (q := 863) (tgt := 1305) C dL_law_860 (by decide) rfl (fun c1 => ?_) (fun c1 => ?_)
  · have c1 := (lg_cmp_eq v1 v2).mp c1
    exact nx _ _ _ hC2 hM2
  · have c1 : ¬ (_) := fun z => c1 ((lg_cmp_eq v1 v2).mpr z)
    first | exact icmp_same e1 e2 (by assumption) | exact lcmp_same e1 e2 (by assumption) | exact lcmp_same e1 e2 (fun z => (show ¬ lg_cmp v1 v2 = 0 by assumption) ((lg_cmp_eq v1 v2).mpr z))
set_option maxRecDepth 4000 in
theorem cs_20 {X : am_X} {R : Room} {c n Ls i : Nat} {xs : Nat → Int32} {σ : SG} (C : am_C G mL_law X) (hX : scAt G X Ls xs) (hL : Ls ≤ 3072) (hi : i + 6 ≤ Ls) (hR1 : 400 ≤ R.frames) (hR2 : 64 * 400 ≤ R.locals) (hc : c + 0 ≤ R.cells) (hn : n + 0 ≤ R.slots) (hC : atC I J σ) (hM : atM I J σ) (nx : ∀ (σ' : SG) (I' : Nat → Nat → Int32) (J' : Nat → Nat → Int64), atC I' J' σ' → atM I' J' σ' → am_A G mL_law X R 1305 [some (.ref 1000021), some (.ref 0), some (.ref 191), some (.int (iZ (i : Int)))] [] (215, kK, kR, I', J') c n) : am_A G mL_law X R 865 [some (.ref 1000021), some (.ref 0), some (.ref 191), some (.int (iZ (i : Int)))] [] (215, kK, kR, I, J) c n := by
  refine am_aload_n (q := 866) C dL_law_865 rfl rfl ?_
  refine am_aload_n (q := 867) C dL_law_866 rfl rfl ?_
  refine am_iload_n (q := 868) C dL_law_867 rfl rfl ?_
  refine am_iconst (q := 869) (v := iZ 1) C dL_law_868 rfl rfl ?_
  refine am_iaddZ (q := 870) C dL_law_869 rfl ?_
  refine am_sld (q := 871) (k := i + 1) C hX dL_law_870 rfl (by omega) (by omega) ?_
  refine am_aload_n (q := 872) C dL_law_871 rfl rfl ?_
  refine am_iload_n (q := 873) C dL_law_872 rfl rfl ?_
  refine am_iconst (q := 874) (v := iZ 2) C dL_law_873 rfl rfl ?_
  refine am_iaddZ (q := 875) C dL_law_874 rfl ?_
  refine am_sld (q := 876) (k := i + 2) C hX dL_law_875 rfl (by omega) (by omega) ?_
  refine am_aload_n (q := 877) C dL_law_876 rfl rfl ?_
  refine am_iload_n (q := 878) C dL_law_877 rfl rfl ?_
  refine am_iconst (q := 879) (v := iZ 3) C dL_law_878 rfl rfl ?_
  refine am_iaddZ (q := 880) C dL_law_879 rfl ?_
  refine am_sld (q := 881) (k := i + 3) C hX dL_law_880 rfl (by omega) (by omega) ?_
  refine am_callV (q := 884) (As := [.int (iZ ((xs (i + 1)).toInt)), .int (iZ ((xs (i + 2)).toInt)), .int (iZ ((xs (i + 3)).toInt))]) (rest := []) C mb_X10_formula im_X10_formula se_X10_formula ml_L_103 cb_10 kk_0 (show 0 < 215 by decide) dL_law_881 rfl (sp_X10_formula hC (rg_x _) (rg_x _) (rg_x _)) rfl rfl ⟨by omega, by omega⟩ ⟨hc, hn⟩ (Nat.le_of_ble_eq_true rfl) (am_rl (fun v1 w' hw' => ?_))
  obtain ⟨e1, I1, J1, rfl, hC1, fC⟩ := hw'
  have hM1 := atM_frC hM fC
  refine am_aload_n (q := 885) C dL_law_884 rfl rfl ?_
  refine am_aload_n (q := 886) C dL_law_885 rfl rfl ?_
  refine am_iload_n (q := 887) C dL_law_886 rfl rfl ?_
  refine am_iconst (q := 888) (v := iZ 1) C dL_law_887 rfl rfl ?_
  refine am_iaddZ (q := 889) C dL_law_888 rfl ?_
  refine am_sld (q := 890) (k := i + 1) C hX dL_law_889 rfl (by omega) (by omega) ?_
  refine am_aload_n (q := 891) C dL_law_890 rfl rfl ?_
  refine am_iload_n (q := 892) C dL_law_891 rfl rfl ?_
  refine am_iconst (q := 893) (v := iZ 2) C dL_law_892 rfl rfl ?_
  refine am_iaddZ (q := 894) C dL_law_893 rfl ?_
  refine am_sld (q := 895) (k := i + 2) C hX dL_law_894 rfl (by omega) (by omega) ?_
  refine am_aload_n (q := 896) C dL_law_895 rfl rfl ?_
  refine am_iload_n (q := 897) C dL_law_896 rfl rfl ?_
  refine am_iconst (q := 898) (v := iZ 3) C dL_law_897 rfl rfl ?_
  refine am_iaddZ (q := 899) C dL_law_898 rfl ?_
  refine am_sld (q := 900) (k := i + 3) C hX dL_law_899 rfl (by omega) (by omega) ?_
  refine am_callV (q := 903) (As := [.int (iZ ((xs (i + 1)).toInt)), .int (iZ ((xs (i + 2)).toInt)), .int (iZ ((xs (i + 3)).toInt))]) (rest := [.long v1]) C mb_X11_formula im_X11_formula se_X11_formula ml_L_106 cb_11 kk_191 (show 191 < 215 by decide) dL_law_900 rfl (sp_X11_formula hM1 (rg_x _) (rg_x _) (rg_x _)) rfl rfl ⟨by omega, by omega⟩ ⟨hc, hn⟩ (Nat.le_of_ble_eq_true rfl) (am_rl (fun v2 w' hw' => ?_))
  obtain ⟨e2, I2, J2, rfl, hM2, fM⟩ := hw'
  have hC2 := atC_frM hC1 fM
  refine am_lcmp (q := 904) C dL_law_903 rfl ?_
  refine am_if_eq (q := 907) (tgt := 1305) C dL_law_904 (by decide) rfl (fun c1 => ?_) (fun c1 => ?_)
  · have c1 := (lg_cmp_eq v1 v2).mp c1
    exact nx _ _ _ hC2 hM2
  · have c1 : ¬ (_) := fun z => c1 ((lg_cmp_eq v1 v2).mpr z)
    first | exact icmp_same e1 e2 (by assumption) | exact lcmp_same e1 e2 (by assumption) | exact lcmp_same e1 e2 (fun z => (show ¬ lg_cmp v1 v2 = 0 by assumption) ((lg_cmp_eq v1 v2).mpr z))
set_option maxRecDepth 4000 in
theorem cs_21 {X : am_X} {R : Room} {c n Ls i : Nat} {xs : Nat → Int32} {σ : SG} (C : am_C G mL_law X) (hX : scAt G X Ls xs) (hL : Ls ≤ 3072) (hi : i + 6 ≤ Ls) (hR1 : 400 ≤ R.frames) (hR2 : 64 * 400 ≤ R.locals) (hc : c + 0 ≤ R.cells) (hn : n + 0 ≤ R.slots) (hC : atC I J σ) (hM : atM I J σ) (nx : ∀ (σ' : SG) (I' : Nat → Nat → Int32) (J' : Nat → Nat → Int64), atC I' J' σ' → atM I' J' σ' → am_A G mL_law X R 1305 [some (.ref 1000021), some (.ref 0), some (.ref 191), some (.int (iZ (i : Int)))] [] (215, kK, kR, I', J') c n) : am_A G mL_law X R 909 [some (.ref 1000021), some (.ref 0), some (.ref 191), some (.int (iZ (i : Int)))] [] (215, kK, kR, I, J) c n := by
  refine am_aload_n (q := 910) C dL_law_909 rfl rfl ?_
  refine am_aload_n (q := 911) C dL_law_910 rfl rfl ?_
  refine am_iload_n (q := 912) C dL_law_911 rfl rfl ?_
  refine am_iconst (q := 913) (v := iZ 1) C dL_law_912 rfl rfl ?_
  refine am_iaddZ (q := 914) C dL_law_913 rfl ?_
  refine am_sld (q := 915) (k := i + 1) C hX dL_law_914 rfl (by omega) (by omega) ?_
  refine am_aload_n (q := 916) C dL_law_915 rfl rfl ?_
  refine am_iload_n (q := 917) C dL_law_916 rfl rfl ?_
  refine am_iconst (q := 918) (v := iZ 2) C dL_law_917 rfl rfl ?_
  refine am_iaddZ (q := 919) C dL_law_918 rfl ?_
  refine am_sld (q := 920) (k := i + 2) C hX dL_law_919 rfl (by omega) (by omega) ?_
  refine am_callV (q := 923) (As := [.int (iZ ((xs (i + 1)).toInt)), .int (iZ ((xs (i + 2)).toInt))]) (rest := []) C mb_X10_agrees im_X10_agrees se_X10_agrees ml_L_107 cb_10 kk_0 (show 0 < 215 by decide) dL_law_920 rfl (sp_X10_agrees hC (rg_x _) (rg_x _)) rfl rfl ⟨by omega, by omega⟩ ⟨hc, hn⟩ (Nat.le_of_ble_eq_true rfl) (am_ri (fun v1 w' hw' => ?_))
  obtain ⟨e1, I1, J1, rfl, hC1, fC⟩ := hw'
  have hM1 := atM_frC hM fC
  refine am_aload_n (q := 924) C dL_law_923 rfl rfl ?_
  refine am_aload_n (q := 925) C dL_law_924 rfl rfl ?_
  refine am_iload_n (q := 926) C dL_law_925 rfl rfl ?_
  refine am_iconst (q := 927) (v := iZ 1) C dL_law_926 rfl rfl ?_
  refine am_iaddZ (q := 928) C dL_law_927 rfl ?_
  refine am_sld (q := 929) (k := i + 1) C hX dL_law_928 rfl (by omega) (by omega) ?_
  refine am_aload_n (q := 930) C dL_law_929 rfl rfl ?_
  refine am_iload_n (q := 931) C dL_law_930 rfl rfl ?_
  refine am_iconst (q := 932) (v := iZ 2) C dL_law_931 rfl rfl ?_
  refine am_iaddZ (q := 933) C dL_law_932 rfl ?_
  refine am_sld (q := 934) (k := i + 2) C hX dL_law_933 rfl (by omega) (by omega) ?_
  refine am_callV (q := 937) (As := [.int (iZ ((xs (i + 1)).toInt)), .int (iZ ((xs (i + 2)).toInt))]) (rest := [.int v1]) C mb_X11_agrees im_X11_agrees se_X11_agrees ml_L_110 cb_11 kk_191 (show 191 < 215 by decide) dL_law_934 rfl (sp_X11_agrees hM1 (rg_x _) (rg_x _)) rfl rfl ⟨by omega, by omega⟩ ⟨hc, hn⟩ (Nat.le_of_ble_eq_true rfl) (am_ri (fun v2 w' hw' => ?_))
  obtain ⟨e2, I2, J2, rfl, hM2, fM⟩ := hw'
  have hC2 := atC_frM hC1 fM
  refine am_icmp_eq (q := 940) (tgt := 1305) C dL_law_937 (by decide) rfl (fun c1 => ?_) (fun c1 => ?_)
  · exact nx _ _ _ hC2 hM2
  · first | exact icmp_same e1 e2 (by assumption) | exact lcmp_same e1 e2 (by assumption) | exact lcmp_same e1 e2 (fun z => (show ¬ lg_cmp v1 v2 = 0 by assumption) ((lg_cmp_eq v1 v2).mpr z))
set_option maxRecDepth 4000 in
theorem cs_22 {X : am_X} {R : Room} {c n Ls i : Nat} {xs : Nat → Int32} {σ : SG} (C : am_C G mL_law X) (hX : scAt G X Ls xs) (hL : Ls ≤ 3072) (hi : i + 6 ≤ Ls) (hR1 : 400 ≤ R.frames) (hR2 : 64 * 400 ≤ R.locals) (hc : c + 0 ≤ R.cells) (hn : n + 0 ≤ R.slots) (hC : atC I J σ) (hM : atM I J σ) (nx : ∀ (σ' : SG) (I' : Nat → Nat → Int32) (J' : Nat → Nat → Int64), atC I' J' σ' → atM I' J' σ' → am_A G mL_law X R 1305 [some (.ref 1000021), some (.ref 0), some (.ref 191), some (.int (iZ (i : Int)))] [] (215, kK, kR, I', J') c n) : am_A G mL_law X R 942 [some (.ref 1000021), some (.ref 0), some (.ref 191), some (.int (iZ (i : Int)))] [] (215, kK, kR, I, J) c n := by
  refine am_aload_n (q := 943) C dL_law_942 rfl rfl ?_
  refine am_aload_n (q := 944) C dL_law_943 rfl rfl ?_
  refine am_iload_n (q := 945) C dL_law_944 rfl rfl ?_
  refine am_iconst (q := 946) (v := iZ 1) C dL_law_945 rfl rfl ?_
  refine am_iaddZ (q := 947) C dL_law_946 rfl ?_
  refine am_sld (q := 948) (k := i + 1) C hX dL_law_947 rfl (by omega) (by omega) ?_
  refine am_aload_n (q := 949) C dL_law_948 rfl rfl ?_
  refine am_iload_n (q := 950) C dL_law_949 rfl rfl ?_
  refine am_iconst (q := 951) (v := iZ 2) C dL_law_950 rfl rfl ?_
  refine am_iaddZ (q := 952) C dL_law_951 rfl ?_
  refine am_sld (q := 953) (k := i + 2) C hX dL_law_952 rfl (by omega) (by omega) ?_
  refine am_aload_n (q := 954) C dL_law_953 rfl rfl ?_
  refine am_iload_n (q := 955) C dL_law_954 rfl rfl ?_
  refine am_iconst (q := 956) (v := iZ 3) C dL_law_955 rfl rfl ?_
  refine am_iaddZ (q := 957) C dL_law_956 rfl ?_
  refine am_sld (q := 958) (k := i + 3) C hX dL_law_957 rfl (by omega) (by omega) ?_
  refine am_callV (q := 961) (As := [.int (iZ ((xs (i + 1)).toInt)), .int (iZ ((xs (i + 2)).toInt)), .int (iZ ((xs (i + 3)).toInt))]) (rest := []) C mb_X10_sheet im_X10_sheet se_X10_sheet ml_L_111 cb_10 kk_0 (show 0 < 215 by decide) dL_law_958 rfl (sp_X10_sheet hC (rg_x _) (rg_x _) (rg_x _)) rfl rfl ⟨by omega, by omega⟩ ⟨hc, hn⟩ (Nat.le_of_ble_eq_true rfl) (am_ri (fun v1 w' hw' => ?_))
  obtain ⟨e1, I1, J1, rfl, hC1, fC⟩ := hw'
  have hM1 := atM_frC hM fC
  refine am_aload_n (q := 962) C dL_law_961 rfl rfl ?_
  refine am_aload_n (q := 963) C dL_law_962 rfl rfl ?_
  refine am_iload_n (q := 964) C dL_law_963 rfl rfl ?_
  refine am_iconst (q := 965) (v := iZ 1) C dL_law_964 rfl rfl ?_
  refine am_iaddZ (q := 966) C dL_law_965 rfl ?_
  refine am_sld (q := 967) (k := i + 1) C hX dL_law_966 rfl (by omega) (by omega) ?_
  refine am_aload_n (q := 968) C dL_law_967 rfl rfl ?_
  refine am_iload_n (q := 969) C dL_law_968 rfl rfl ?_
  refine am_iconst (q := 970) (v := iZ 2) C dL_law_969 rfl rfl ?_
  refine am_iaddZ (q := 971) C dL_law_970 rfl ?_
  refine am_sld (q := 972) (k := i + 2) C hX dL_law_971 rfl (by omega) (by omega) ?_
  refine am_aload_n (q := 973) C dL_law_972 rfl rfl ?_
  refine am_iload_n (q := 974) C dL_law_973 rfl rfl ?_
  refine am_iconst (q := 975) (v := iZ 3) C dL_law_974 rfl rfl ?_
  refine am_iaddZ (q := 976) C dL_law_975 rfl ?_
  refine am_sld (q := 977) (k := i + 3) C hX dL_law_976 rfl (by omega) (by omega) ?_
  refine am_callV (q := 980) (As := [.int (iZ ((xs (i + 1)).toInt)), .int (iZ ((xs (i + 2)).toInt)), .int (iZ ((xs (i + 3)).toInt))]) (rest := [.int v1]) C mb_X11_sheet im_X11_sheet se_X11_sheet ml_L_115 cb_11 kk_191 (show 191 < 215 by decide) dL_law_977 rfl (sp_X11_sheet hM1 (rg_x _) (rg_x _) (rg_x _)) rfl rfl ⟨by omega, by omega⟩ ⟨hc, hn⟩ (Nat.le_of_ble_eq_true rfl) (am_ri (fun v2 w' hw' => ?_))
  obtain ⟨e2, I2, J2, rfl, hM2, fM⟩ := hw'
  have hC2 := atC_frM hC1 fM
  refine am_icmp_eq (q := 983) (tgt := 1305) C dL_law_980 (by decide) rfl (fun c1 => ?_) (fun c1 => ?_)
  · exact nx _ _ _ hC2 hM2
  · first | exact icmp_same e1 e2 (by assumption) | exact lcmp_same e1 e2 (by assumption) | exact lcmp_same e1 e2 (fun z => (show ¬ lg_cmp v1 v2 = 0 by assumption) ((lg_cmp_eq v1 v2).mpr z))
set_option maxRecDepth 4000 in
theorem cs_23 {X : am_X} {R : Room} {c n Ls i : Nat} {xs : Nat → Int32} {σ : SG} (C : am_C G mL_law X) (hX : scAt G X Ls xs) (hL : Ls ≤ 3072) (hi : i + 6 ≤ Ls) (hR1 : 400 ≤ R.frames) (hR2 : 64 * 400 ≤ R.locals) (hc : c + 0 ≤ R.cells) (hn : n + 0 ≤ R.slots) (hC : atC I J σ) (hM : atM I J σ) (nx : ∀ (σ' : SG) (I' : Nat → Nat → Int32) (J' : Nat → Nat → Int64), atC I' J' σ' → atM I' J' σ' → am_A G mL_law X R 1305 [some (.ref 1000021), some (.ref 0), some (.ref 191), some (.int (iZ (i : Int)))] [] (215, kK, kR, I', J') c n) : am_A G mL_law X R 985 [some (.ref 1000021), some (.ref 0), some (.ref 191), some (.int (iZ (i : Int)))] [] (215, kK, kR, I, J) c n := by
  refine am_aload_n (q := 986) C dL_law_985 rfl rfl ?_
  refine am_aload_n (q := 987) C dL_law_986 rfl rfl ?_
  refine am_iload_n (q := 988) C dL_law_987 rfl rfl ?_
  refine am_iconst (q := 989) (v := iZ 1) C dL_law_988 rfl rfl ?_
  refine am_iaddZ (q := 990) C dL_law_989 rfl ?_
  refine am_sld (q := 991) (k := i + 1) C hX dL_law_990 rfl (by omega) (by omega) ?_
  refine am_aload_n (q := 992) C dL_law_991 rfl rfl ?_
  refine am_iload_n (q := 993) C dL_law_992 rfl rfl ?_
  refine am_iconst (q := 994) (v := iZ 2) C dL_law_993 rfl rfl ?_
  refine am_iaddZ (q := 995) C dL_law_994 rfl ?_
  refine am_sld (q := 996) (k := i + 2) C hX dL_law_995 rfl (by omega) (by omega) ?_
  refine am_aload_n (q := 997) C dL_law_996 rfl rfl ?_
  refine am_iload_n (q := 998) C dL_law_997 rfl rfl ?_
  refine am_iconst (q := 999) (v := iZ 3) C dL_law_998 rfl rfl ?_
  refine am_iaddZ (q := 1000) C dL_law_999 rfl ?_
  refine am_sld (q := 1001) (k := i + 3) C hX dL_law_1000 rfl (by omega) (by omega) ?_
  refine am_i2lZ (q := 1002) C dL_law_1001 rfl (rg_x _) ?_
  refine am_bipush (q := 1004) (v := iZ 32) C dL_law_1002 rfl rfl ?_
  refine am_lshl (q := 1005) C dL_law_1004 rfl ?_
  refine am_aload_n (q := 1006) C dL_law_1005 rfl rfl ?_
  refine am_iload_n (q := 1007) C dL_law_1006 rfl rfl ?_
  refine am_iconst (q := 1008) (v := iZ 4) C dL_law_1007 rfl rfl ?_
  refine am_iaddZ (q := 1009) C dL_law_1008 rfl ?_
  refine am_sld (q := 1010) (k := i + 4) C hX dL_law_1009 rfl (by omega) (by omega) ?_
  refine am_i2lZ (q := 1011) C dL_law_1010 rfl (rg_x _) ?_
  refine am_ldc2 (q := 1014) C dL_law_1011 rfl ck_L_35 ?_
  refine am_longE (y := lN 4294967295) rfl ?_
  refine am_land (q := 1015) C dL_law_1014 rfl ?_
  refine am_lor (q := 1016) C dL_law_1015 rfl ?_
  refine am_callV (q := 1019) (As := [.int (iZ ((xs (i + 1)).toInt)), .int (iZ ((xs (i + 2)).toInt)), .long ((jshlL (Int64.ofInt ((xs (i + 3)).toInt)) (iZ 32)) ||| ((Int64.ofInt ((xs (i + 4)).toInt)) &&& (lN 4294967295)))]) (rest := []) C mb_X10_put im_X10_put se_X10_put ml_L_116 cb_10 kk_0 (show 0 < 215 by decide) dL_law_1016 rfl (sp_X10_put hC (rg_x _) (rg_x _)) rfl rfl ⟨by omega, by omega⟩ ⟨hc, hn⟩ (Nat.le_of_ble_eq_true rfl) (am_ri (fun v1 w' hw' => ?_))
  obtain ⟨e1, I1, J1, rfl, hC1, fC⟩ := hw'
  have hM1 := atM_frC hM fC
  refine am_aload_n (q := 1020) C dL_law_1019 rfl rfl ?_
  refine am_aload_n (q := 1021) C dL_law_1020 rfl rfl ?_
  refine am_iload_n (q := 1022) C dL_law_1021 rfl rfl ?_
  refine am_iconst (q := 1023) (v := iZ 1) C dL_law_1022 rfl rfl ?_
  refine am_iaddZ (q := 1024) C dL_law_1023 rfl ?_
  refine am_sld (q := 1025) (k := i + 1) C hX dL_law_1024 rfl (by omega) (by omega) ?_
  refine am_aload_n (q := 1026) C dL_law_1025 rfl rfl ?_
  refine am_iload_n (q := 1027) C dL_law_1026 rfl rfl ?_
  refine am_iconst (q := 1028) (v := iZ 2) C dL_law_1027 rfl rfl ?_
  refine am_iaddZ (q := 1029) C dL_law_1028 rfl ?_
  refine am_sld (q := 1030) (k := i + 2) C hX dL_law_1029 rfl (by omega) (by omega) ?_
  refine am_aload_n (q := 1031) C dL_law_1030 rfl rfl ?_
  refine am_iload_n (q := 1032) C dL_law_1031 rfl rfl ?_
  refine am_iconst (q := 1033) (v := iZ 3) C dL_law_1032 rfl rfl ?_
  refine am_iaddZ (q := 1034) C dL_law_1033 rfl ?_
  refine am_sld (q := 1035) (k := i + 3) C hX dL_law_1034 rfl (by omega) (by omega) ?_
  refine am_i2lZ (q := 1036) C dL_law_1035 rfl (rg_x _) ?_
  refine am_bipush (q := 1038) (v := iZ 32) C dL_law_1036 rfl rfl ?_
  refine am_lshl (q := 1039) C dL_law_1038 rfl ?_
  refine am_aload_n (q := 1040) C dL_law_1039 rfl rfl ?_
  refine am_iload_n (q := 1041) C dL_law_1040 rfl rfl ?_
  refine am_iconst (q := 1042) (v := iZ 4) C dL_law_1041 rfl rfl ?_
  refine am_iaddZ (q := 1043) C dL_law_1042 rfl ?_
  refine am_sld (q := 1044) (k := i + 4) C hX dL_law_1043 rfl (by omega) (by omega) ?_
  refine am_i2lZ (q := 1045) C dL_law_1044 rfl (rg_x _) ?_
  refine am_ldc2 (q := 1048) C dL_law_1045 rfl ck_L_35 ?_
  refine am_longE (y := lN 4294967295) rfl ?_
  refine am_land (q := 1049) C dL_law_1048 rfl ?_
  refine am_lor (q := 1050) C dL_law_1049 rfl ?_
  refine am_callV (q := 1053) (As := [.int (iZ ((xs (i + 1)).toInt)), .int (iZ ((xs (i + 2)).toInt)), .long ((jshlL (Int64.ofInt ((xs (i + 3)).toInt)) (iZ 32)) ||| ((Int64.ofInt ((xs (i + 4)).toInt)) &&& (lN 4294967295)))]) (rest := [.int v1]) C mb_X11_put im_X11_put se_X11_put ml_L_120 cb_11 kk_191 (show 191 < 215 by decide) dL_law_1050 rfl (sp_X11_put hM1 (rg_x _) (rg_x _)) rfl rfl ⟨by omega, by omega⟩ ⟨hc, hn⟩ (Nat.le_of_ble_eq_true rfl) (am_ri (fun v2 w' hw' => ?_))
  obtain ⟨e2, I2, J2, rfl, hM2, fM⟩ := hw'
  have hC2 := atC_frM hC1 fM
  refine am_icmp_eq (q := 1056) (tgt := 1305) C dL_law_1053 (by decide) rfl (fun c1 => ?_) (fun c1 => ?_)
  · exact nx _ _ _ hC2 hM2
  · first | exact icmp_same e1 e2 (by assumption) | exact lcmp_same e1 e2 (by assumption) | exact lcmp_same e1 e2 (fun z => (show ¬ lg_cmp v1 v2 = 0 by assumption) ((lg_cmp_eq v1 v2).mpr z))
set_option maxRecDepth 4000 in
theorem cs_24 {X : am_X} {R : Room} {c n Ls i : Nat} {xs : Nat → Int32} {σ : SG} (C : am_C G mL_law X) (hX : scAt G X Ls xs) (hL : Ls ≤ 3072) (hi : i + 6 ≤ Ls) (hR1 : 400 ≤ R.frames) (hR2 : 64 * 400 ≤ R.locals) (hc : c + 0 ≤ R.cells) (hn : n + 0 ≤ R.slots) (hC : atC I J σ) (hM : atM I J σ) (nx : ∀ (σ' : SG) (I' : Nat → Nat → Int32) (J' : Nat → Nat → Int64), atC I' J' σ' → atM I' J' σ' → am_A G mL_law X R 1305 [some (.ref 1000021), some (.ref 0), some (.ref 191), some (.int (iZ (i : Int)))] [] (215, kK, kR, I', J') c n) : am_A G mL_law X R 1058 [some (.ref 1000021), some (.ref 0), some (.ref 191), some (.int (iZ (i : Int)))] [] (215, kK, kR, I, J) c n := by
  refine am_aload_n (q := 1059) C dL_law_1058 rfl rfl ?_
  refine am_aload_n (q := 1060) C dL_law_1059 rfl rfl ?_
  refine am_iload_n (q := 1061) C dL_law_1060 rfl rfl ?_
  refine am_iconst (q := 1062) (v := iZ 1) C dL_law_1061 rfl rfl ?_
  refine am_iaddZ (q := 1063) C dL_law_1062 rfl ?_
  refine am_sld (q := 1064) (k := i + 1) C hX dL_law_1063 rfl (by omega) (by omega) ?_
  refine am_aload_n (q := 1065) C dL_law_1064 rfl rfl ?_
  refine am_iload_n (q := 1066) C dL_law_1065 rfl rfl ?_
  refine am_iconst (q := 1067) (v := iZ 2) C dL_law_1066 rfl rfl ?_
  refine am_iaddZ (q := 1068) C dL_law_1067 rfl ?_
  refine am_sld (q := 1069) (k := i + 2) C hX dL_law_1068 rfl (by omega) (by omega) ?_
  refine am_aload_n (q := 1070) C dL_law_1069 rfl rfl ?_
  refine am_iload_n (q := 1071) C dL_law_1070 rfl rfl ?_
  refine am_iconst (q := 1072) (v := iZ 3) C dL_law_1071 rfl rfl ?_
  refine am_iaddZ (q := 1073) C dL_law_1072 rfl ?_
  refine am_sld (q := 1074) (k := i + 3) C hX dL_law_1073 rfl (by omega) (by omega) ?_
  refine am_callV (q := 1077) (As := [.int (iZ ((xs (i + 1)).toInt)), .int (iZ ((xs (i + 2)).toInt)), .int (iZ ((xs (i + 3)).toInt))]) (rest := []) C mb_X10_item im_X10_item se_X10_item ml_L_121 cb_10 kk_0 (show 0 < 215 by decide) dL_law_1074 rfl (sp_X10_item hC (rg_x _) (rg_x _) (rg_x _)) rfl rfl ⟨by omega, by omega⟩ ⟨hc, hn⟩ (Nat.le_of_ble_eq_true rfl) (am_ri (fun v1 w' hw' => ?_))
  obtain ⟨e1, I1, J1, rfl, hC1, fC⟩ := hw'
  have hM1 := atM_frC hM fC
  refine am_aload_n (q := 1078) C dL_law_1077 rfl rfl ?_
  refine am_aload_n (q := 1079) C dL_law_1078 rfl rfl ?_
  refine am_iload_n (q := 1080) C dL_law_1079 rfl rfl ?_
  refine am_iconst (q := 1081) (v := iZ 1) C dL_law_1080 rfl rfl ?_
  refine am_iaddZ (q := 1082) C dL_law_1081 rfl ?_
  refine am_sld (q := 1083) (k := i + 1) C hX dL_law_1082 rfl (by omega) (by omega) ?_
  refine am_aload_n (q := 1084) C dL_law_1083 rfl rfl ?_
  refine am_iload_n (q := 1085) C dL_law_1084 rfl rfl ?_
  refine am_iconst (q := 1086) (v := iZ 2) C dL_law_1085 rfl rfl ?_
  refine am_iaddZ (q := 1087) C dL_law_1086 rfl ?_
  refine am_sld (q := 1088) (k := i + 2) C hX dL_law_1087 rfl (by omega) (by omega) ?_
  refine am_aload_n (q := 1089) C dL_law_1088 rfl rfl ?_
  refine am_iload_n (q := 1090) C dL_law_1089 rfl rfl ?_
  refine am_iconst (q := 1091) (v := iZ 3) C dL_law_1090 rfl rfl ?_
  refine am_iaddZ (q := 1092) C dL_law_1091 rfl ?_
  refine am_sld (q := 1093) (k := i + 3) C hX dL_law_1092 rfl (by omega) (by omega) ?_
  refine am_callV (q := 1096) (As := [.int (iZ ((xs (i + 1)).toInt)), .int (iZ ((xs (i + 2)).toInt)), .int (iZ ((xs (i + 3)).toInt))]) (rest := [.int v1]) C mb_X11_item im_X11_item se_X11_item ml_L_124 cb_11 kk_191 (show 191 < 215 by decide) dL_law_1093 rfl (sp_X11_item hM1 (rg_x _) (rg_x _) (rg_x _)) rfl rfl ⟨by omega, by omega⟩ ⟨hc, hn⟩ (Nat.le_of_ble_eq_true rfl) (am_ri (fun v2 w' hw' => ?_))
  obtain ⟨e2, I2, J2, rfl, hM2, fM⟩ := hw'
  have hC2 := atC_frM hC1 fM
  refine am_icmp_eq (q := 1099) (tgt := 1305) C dL_law_1096 (by decide) rfl (fun c1 => ?_) (fun c1 => ?_)
  · exact nx _ _ _ hC2 hM2
  · first | exact icmp_same e1 e2 (by assumption) | exact lcmp_same e1 e2 (by assumption) | exact lcmp_same e1 e2 (fun z => (show ¬ lg_cmp v1 v2 = 0 by assumption) ((lg_cmp_eq v1 v2).mpr z))
set_option maxRecDepth 4000 in
theorem cs_25 {X : am_X} {R : Room} {c n Ls i : Nat} {xs : Nat → Int32} {σ : SG} (C : am_C G mL_law X) (hX : scAt G X Ls xs) (hL : Ls ≤ 3072) (hi : i + 6 ≤ Ls) (hR1 : 400 ≤ R.frames) (hR2 : 64 * 400 ≤ R.locals) (hc : c + 0 ≤ R.cells) (hn : n + 0 ≤ R.slots) (hC : atC I J σ) (hM : atM I J σ) (nx : ∀ (σ' : SG) (I' : Nat → Nat → Int32) (J' : Nat → Nat → Int64), atC I' J' σ' → atM I' J' σ' → am_A G mL_law X R 1305 [some (.ref 1000021), some (.ref 0), some (.ref 191), some (.int (iZ (i : Int)))] [] (215, kK, kR, I', J') c n) : am_A G mL_law X R 1101 [some (.ref 1000021), some (.ref 0), some (.ref 191), some (.int (iZ (i : Int)))] [] (215, kK, kR, I, J) c n := by
  refine am_aload_n (q := 1102) C dL_law_1101 rfl rfl ?_
  refine am_aload_n (q := 1103) C dL_law_1102 rfl rfl ?_
  refine am_iload_n (q := 1104) C dL_law_1103 rfl rfl ?_
  refine am_iconst (q := 1105) (v := iZ 1) C dL_law_1104 rfl rfl ?_
  refine am_iaddZ (q := 1106) C dL_law_1105 rfl ?_
  refine am_sld (q := 1107) (k := i + 1) C hX dL_law_1106 rfl (by omega) (by omega) ?_
  refine am_aload_n (q := 1108) C dL_law_1107 rfl rfl ?_
  refine am_iload_n (q := 1109) C dL_law_1108 rfl rfl ?_
  refine am_iconst (q := 1110) (v := iZ 2) C dL_law_1109 rfl rfl ?_
  refine am_iaddZ (q := 1111) C dL_law_1110 rfl ?_
  refine am_sld (q := 1112) (k := i + 2) C hX dL_law_1111 rfl (by omega) (by omega) ?_
  refine am_callV (q := 1115) (As := [.int (iZ ((xs (i + 1)).toInt)), .int (iZ ((xs (i + 2)).toInt))]) (rest := []) C mb_X10_lay im_X10_lay se_X10_lay ml_L_125 cb_10 kk_0 (show 0 < 215 by decide) dL_law_1112 rfl (sp_X10_lay hC (rg_x _) (rg_x _)) rfl rfl ⟨by omega, by omega⟩ ⟨hc, hn⟩ (Nat.le_of_ble_eq_true rfl) (am_ri (fun v1 w' hw' => ?_))
  obtain ⟨e1, I1, J1, rfl, hC1, fC⟩ := hw'
  have hM1 := atM_frC hM fC
  refine am_aload_n (q := 1116) C dL_law_1115 rfl rfl ?_
  refine am_aload_n (q := 1117) C dL_law_1116 rfl rfl ?_
  refine am_iload_n (q := 1118) C dL_law_1117 rfl rfl ?_
  refine am_iconst (q := 1119) (v := iZ 1) C dL_law_1118 rfl rfl ?_
  refine am_iaddZ (q := 1120) C dL_law_1119 rfl ?_
  refine am_sld (q := 1121) (k := i + 1) C hX dL_law_1120 rfl (by omega) (by omega) ?_
  refine am_aload_n (q := 1122) C dL_law_1121 rfl rfl ?_
  refine am_iload_n (q := 1123) C dL_law_1122 rfl rfl ?_
  refine am_iconst (q := 1124) (v := iZ 2) C dL_law_1123 rfl rfl ?_
  refine am_iaddZ (q := 1125) C dL_law_1124 rfl ?_
  refine am_sld (q := 1126) (k := i + 2) C hX dL_law_1125 rfl (by omega) (by omega) ?_
  refine am_callV (q := 1129) (As := [.int (iZ ((xs (i + 1)).toInt)), .int (iZ ((xs (i + 2)).toInt))]) (rest := [.int v1]) C mb_X11_lay im_X11_lay se_X11_lay ml_L_128 cb_11 kk_191 (show 191 < 215 by decide) dL_law_1126 rfl (sp_X11_lay hM1 (rg_x _) (rg_x _)) rfl rfl ⟨by omega, by omega⟩ ⟨hc, hn⟩ (Nat.le_of_ble_eq_true rfl) (am_ri (fun v2 w' hw' => ?_))
  obtain ⟨e2, I2, J2, rfl, hM2, fM⟩ := hw'
  have hC2 := atC_frM hC1 fM
  refine am_icmp_eq (q := 1132) (tgt := 1305) C dL_law_1129 (by decide) rfl (fun c1 => ?_) (fun c1 => ?_)
  · exact nx _ _ _ hC2 hM2
  · first | exact icmp_same e1 e2 (by assumption) | exact lcmp_same e1 e2 (by assumption) | exact lcmp_same e1 e2 (fun z => (show ¬ lg_cmp v1 v2 = 0 by assumption) ((lg_cmp_eq v1 v2).mpr z))
set_option maxRecDepth 4000 in
theorem cs_26 {X : am_X} {R : Room} {c n Ls i : Nat} {xs : Nat → Int32} {σ : SG} (C : am_C G mL_law X) (hX : scAt G X Ls xs) (hL : Ls ≤ 3072) (hi : i + 6 ≤ Ls) (hR1 : 400 ≤ R.frames) (hR2 : 64 * 400 ≤ R.locals) (hc : c + 0 ≤ R.cells) (hn : n + 0 ≤ R.slots) (hC : atC I J σ) (hM : atM I J σ) (nx : ∀ (σ' : SG) (I' : Nat → Nat → Int32) (J' : Nat → Nat → Int64), atC I' J' σ' → atM I' J' σ' → am_A G mL_law X R 1305 [some (.ref 1000021), some (.ref 0), some (.ref 191), some (.int (iZ (i : Int)))] [] (215, kK, kR, I', J') c n) : am_A G mL_law X R 1134 [some (.ref 1000021), some (.ref 0), some (.ref 191), some (.int (iZ (i : Int)))] [] (215, kK, kR, I, J) c n := by
  refine am_aload_n (q := 1135) C dL_law_1134 rfl rfl ?_
  refine am_aload_n (q := 1136) C dL_law_1135 rfl rfl ?_
  refine am_iload_n (q := 1137) C dL_law_1136 rfl rfl ?_
  refine am_iconst (q := 1138) (v := iZ 1) C dL_law_1137 rfl rfl ?_
  refine am_iaddZ (q := 1139) C dL_law_1138 rfl ?_
  refine am_sld (q := 1140) (k := i + 1) C hX dL_law_1139 rfl (by omega) (by omega) ?_
  refine am_aload_n (q := 1141) C dL_law_1140 rfl rfl ?_
  refine am_iload_n (q := 1142) C dL_law_1141 rfl rfl ?_
  refine am_iconst (q := 1143) (v := iZ 2) C dL_law_1142 rfl rfl ?_
  refine am_iaddZ (q := 1144) C dL_law_1143 rfl ?_
  refine am_sld (q := 1145) (k := i + 2) C hX dL_law_1144 rfl (by omega) (by omega) ?_
  refine am_callV (q := 1148) (As := [.int (iZ ((xs (i + 1)).toInt)), .int (iZ ((xs (i + 2)).toInt))]) (rest := []) C mb_X10_check im_X10_check se_X10_check ml_L_129 cb_10 kk_0 (show 0 < 215 by decide) dL_law_1145 rfl (sp_X10_check hC (rg_x _) (rg_x _)) rfl rfl ⟨by omega, by omega⟩ ⟨hc, hn⟩ (Nat.le_of_ble_eq_true rfl) (am_ri (fun v1 w' hw' => ?_))
  obtain ⟨e1, I1, J1, rfl, hC1, fC⟩ := hw'
  have hM1 := atM_frC hM fC
  refine am_aload_n (q := 1149) C dL_law_1148 rfl rfl ?_
  refine am_aload_n (q := 1150) C dL_law_1149 rfl rfl ?_
  refine am_iload_n (q := 1151) C dL_law_1150 rfl rfl ?_
  refine am_iconst (q := 1152) (v := iZ 1) C dL_law_1151 rfl rfl ?_
  refine am_iaddZ (q := 1153) C dL_law_1152 rfl ?_
  refine am_sld (q := 1154) (k := i + 1) C hX dL_law_1153 rfl (by omega) (by omega) ?_
  refine am_aload_n (q := 1155) C dL_law_1154 rfl rfl ?_
  refine am_iload_n (q := 1156) C dL_law_1155 rfl rfl ?_
  refine am_iconst (q := 1157) (v := iZ 2) C dL_law_1156 rfl rfl ?_
  refine am_iaddZ (q := 1158) C dL_law_1157 rfl ?_
  refine am_sld (q := 1159) (k := i + 2) C hX dL_law_1158 rfl (by omega) (by omega) ?_
  refine am_callV (q := 1162) (As := [.int (iZ ((xs (i + 1)).toInt)), .int (iZ ((xs (i + 2)).toInt))]) (rest := [.int v1]) C mb_X11_check im_X11_check se_X11_check ml_L_132 cb_11 kk_191 (show 191 < 215 by decide) dL_law_1159 rfl (sp_X11_check hM1 (rg_x _) (rg_x _)) rfl rfl ⟨by omega, by omega⟩ ⟨hc, hn⟩ (Nat.le_of_ble_eq_true rfl) (am_ri (fun v2 w' hw' => ?_))
  obtain ⟨e2, I2, J2, rfl, hM2, fM⟩ := hw'
  have hC2 := atC_frM hC1 fM
  refine am_icmp_eq (q := 1165) (tgt := 1305) C dL_law_1162 (by decide) rfl (fun c1 => ?_) (fun c1 => ?_)
  · exact nx _ _ _ hC2 hM2
  · first | exact icmp_same e1 e2 (by assumption) | exact lcmp_same e1 e2 (by assumption) | exact lcmp_same e1 e2 (fun z => (show ¬ lg_cmp v1 v2 = 0 by assumption) ((lg_cmp_eq v1 v2).mpr z))
set_option maxRecDepth 4000 in
theorem cs_27 {X : am_X} {R : Room} {c n Ls i : Nat} {xs : Nat → Int32} {σ : SG} (C : am_C G mL_law X) (hX : scAt G X Ls xs) (hL : Ls ≤ 3072) (hi : i + 6 ≤ Ls) (hR1 : 400 ≤ R.frames) (hR2 : 64 * 400 ≤ R.locals) (hc : c + 0 ≤ R.cells) (hn : n + 0 ≤ R.slots) (hC : atC I J σ) (hM : atM I J σ) (nx : ∀ (σ' : SG) (I' : Nat → Nat → Int32) (J' : Nat → Nat → Int64), atC I' J' σ' → atM I' J' σ' → am_A G mL_law X R 1305 [some (.ref 1000021), some (.ref 0), some (.ref 191), some (.int (iZ (i : Int)))] [] (215, kK, kR, I', J') c n) : am_A G mL_law X R 1167 [some (.ref 1000021), some (.ref 0), some (.ref 191), some (.int (iZ (i : Int)))] [] (215, kK, kR, I, J) c n := by
  refine am_aload_n (q := 1168) C dL_law_1167 rfl rfl ?_
  refine am_aload_n (q := 1169) C dL_law_1168 rfl rfl ?_
  refine am_iload_n (q := 1170) C dL_law_1169 rfl rfl ?_
  refine am_iconst (q := 1171) (v := iZ 1) C dL_law_1170 rfl rfl ?_
  refine am_iaddZ (q := 1172) C dL_law_1171 rfl ?_
  refine am_sld (q := 1173) (k := i + 1) C hX dL_law_1172 rfl (by omega) (by omega) ?_
  refine am_aload_n (q := 1174) C dL_law_1173 rfl rfl ?_
  refine am_iload_n (q := 1175) C dL_law_1174 rfl rfl ?_
  refine am_iconst (q := 1176) (v := iZ 2) C dL_law_1175 rfl rfl ?_
  refine am_iaddZ (q := 1177) C dL_law_1176 rfl ?_
  refine am_sld (q := 1178) (k := i + 2) C hX dL_law_1177 rfl (by omega) (by omega) ?_
  refine am_aload_n (q := 1179) C dL_law_1178 rfl rfl ?_
  refine am_iload_n (q := 1180) C dL_law_1179 rfl rfl ?_
  refine am_iconst (q := 1181) (v := iZ 3) C dL_law_1180 rfl rfl ?_
  refine am_iaddZ (q := 1182) C dL_law_1181 rfl ?_
  refine am_sld (q := 1183) (k := i + 3) C hX dL_law_1182 rfl (by omega) (by omega) ?_
  refine am_callV (q := 1186) (As := [.int (iZ ((xs (i + 1)).toInt)), .int (iZ ((xs (i + 2)).toInt)), .int (iZ ((xs (i + 3)).toInt))]) (rest := []) C mb_X10_more im_X10_more se_X10_more ml_L_133 cb_10 kk_0 (show 0 < 215 by decide) dL_law_1183 rfl (sp_X10_more hC (rg_x _) (rg_x _) (rg_x _)) rfl rfl ⟨by omega, by omega⟩ ⟨hc, hn⟩ (Nat.le_of_ble_eq_true rfl) (am_ri (fun v1 w' hw' => ?_))
  obtain ⟨e1, I1, J1, rfl, hC1, fC⟩ := hw'
  have hM1 := atM_frC hM fC
  refine am_aload_n (q := 1187) C dL_law_1186 rfl rfl ?_
  refine am_aload_n (q := 1188) C dL_law_1187 rfl rfl ?_
  refine am_iload_n (q := 1189) C dL_law_1188 rfl rfl ?_
  refine am_iconst (q := 1190) (v := iZ 1) C dL_law_1189 rfl rfl ?_
  refine am_iaddZ (q := 1191) C dL_law_1190 rfl ?_
  refine am_sld (q := 1192) (k := i + 1) C hX dL_law_1191 rfl (by omega) (by omega) ?_
  refine am_aload_n (q := 1193) C dL_law_1192 rfl rfl ?_
  refine am_iload_n (q := 1194) C dL_law_1193 rfl rfl ?_
  refine am_iconst (q := 1195) (v := iZ 2) C dL_law_1194 rfl rfl ?_
  refine am_iaddZ (q := 1196) C dL_law_1195 rfl ?_
  refine am_sld (q := 1197) (k := i + 2) C hX dL_law_1196 rfl (by omega) (by omega) ?_
  refine am_aload_n (q := 1198) C dL_law_1197 rfl rfl ?_
  refine am_iload_n (q := 1199) C dL_law_1198 rfl rfl ?_
  refine am_iconst (q := 1200) (v := iZ 3) C dL_law_1199 rfl rfl ?_
  refine am_iaddZ (q := 1201) C dL_law_1200 rfl ?_
  refine am_sld (q := 1202) (k := i + 3) C hX dL_law_1201 rfl (by omega) (by omega) ?_
  refine am_callV (q := 1205) (As := [.int (iZ ((xs (i + 1)).toInt)), .int (iZ ((xs (i + 2)).toInt)), .int (iZ ((xs (i + 3)).toInt))]) (rest := [.int v1]) C mb_X11_more im_X11_more se_X11_more ml_L_136 cb_11 kk_191 (show 191 < 215 by decide) dL_law_1202 rfl (sp_X11_more hM1 (rg_x _) (rg_x _) (rg_x _)) rfl rfl ⟨by omega, by omega⟩ ⟨hc, hn⟩ (Nat.le_of_ble_eq_true rfl) (am_ri (fun v2 w' hw' => ?_))
  obtain ⟨e2, I2, J2, rfl, hM2, fM⟩ := hw'
  have hC2 := atC_frM hC1 fM
  refine am_icmp_eq (q := 1208) (tgt := 1305) C dL_law_1205 (by decide) rfl (fun c1 => ?_) (fun c1 => ?_)
  · exact nx _ _ _ hC2 hM2
  · first | exact icmp_same e1 e2 (by assumption) | exact lcmp_same e1 e2 (by assumption) | exact lcmp_same e1 e2 (fun z => (show ¬ lg_cmp v1 v2 = 0 by assumption) ((lg_cmp_eq v1 v2).mpr z))
set_option maxRecDepth 4000 in
theorem cs_28 {X : am_X} {R : Room} {c n Ls i : Nat} {xs : Nat → Int32} {σ : SG} (C : am_C G mL_law X) (hX : scAt G X Ls xs) (hL : Ls ≤ 3072) (hi : i + 6 ≤ Ls) (hR1 : 400 ≤ R.frames) (hR2 : 64 * 400 ≤ R.locals) (hc : c + 0 ≤ R.cells) (hn : n + 0 ≤ R.slots) (hC : atC I J σ) (hM : atM I J σ) (nx : ∀ (σ' : SG) (I' : Nat → Nat → Int32) (J' : Nat → Nat → Int64), atC I' J' σ' → atM I' J' σ' → am_A G mL_law X R 1305 [some (.ref 1000021), some (.ref 0), some (.ref 191), some (.int (iZ (i : Int)))] [] (215, kK, kR, I', J') c n) : am_A G mL_law X R 1210 [some (.ref 1000021), some (.ref 0), some (.ref 191), some (.int (iZ (i : Int)))] [] (215, kK, kR, I, J) c n := by
  refine am_aload_n (q := 1211) C dL_law_1210 rfl rfl ?_
  refine am_aload_n (q := 1212) C dL_law_1211 rfl rfl ?_
  refine am_iload_n (q := 1213) C dL_law_1212 rfl rfl ?_
  refine am_iconst (q := 1214) (v := iZ 1) C dL_law_1213 rfl rfl ?_
  refine am_iaddZ (q := 1215) C dL_law_1214 rfl ?_
  refine am_sld (q := 1216) (k := i + 1) C hX dL_law_1215 rfl (by omega) (by omega) ?_
  refine am_callV (q := 1219) (As := [.int (iZ ((xs (i + 1)).toInt))]) (rest := []) C mb_X10_seed im_X10_seed se_X10_seed ml_L_137 cb_10 kk_0 (show 0 < 215 by decide) dL_law_1216 rfl (sp_X10_seed hC) rfl rfl ⟨by omega, by omega⟩ ⟨hc, hn⟩ (Nat.le_of_ble_eq_true rfl) (am_ri (fun v1 w' hw' => ?_))
  obtain ⟨e1, I1, J1, rfl, hC1, fC⟩ := hw'
  have hM1 := atM_frC hM fC
  refine am_aload_n (q := 1220) C dL_law_1219 rfl rfl ?_
  refine am_aload_n (q := 1221) C dL_law_1220 rfl rfl ?_
  refine am_iload_n (q := 1222) C dL_law_1221 rfl rfl ?_
  refine am_iconst (q := 1223) (v := iZ 1) C dL_law_1222 rfl rfl ?_
  refine am_iaddZ (q := 1224) C dL_law_1223 rfl ?_
  refine am_sld (q := 1225) (k := i + 1) C hX dL_law_1224 rfl (by omega) (by omega) ?_
  refine am_callV (q := 1228) (As := [.int (iZ ((xs (i + 1)).toInt))]) (rest := [.int v1]) C mb_X11_seed im_X11_seed se_X11_seed ml_L_140 cb_11 kk_191 (show 191 < 215 by decide) dL_law_1225 rfl (sp_X11_seed hM1 rfl) rfl rfl ⟨by omega, by omega⟩ ⟨hc, hn⟩ (Nat.le_of_ble_eq_true rfl) (am_ri (fun v2 w' hw' => ?_))
  obtain ⟨e2, I2, J2, rfl, hM2, fM⟩ := hw'
  have hC2 := atC_frM hC1 fM
  refine am_icmp_eq (q := 1231) (tgt := 1305) C dL_law_1228 (by decide) rfl (fun c1 => ?_) (fun c1 => ?_)
  · exact nx _ _ _ hC2 hM2
  · first | exact icmp_same e1 e2 (by assumption) | exact lcmp_same e1 e2 (by assumption) | exact lcmp_same e1 e2 (fun z => (show ¬ lg_cmp v1 v2 = 0 by assumption) ((lg_cmp_eq v1 v2).mpr z))
set_option maxRecDepth 4000 in
theorem cs_29 {X : am_X} {R : Room} {c n Ls i : Nat} {xs : Nat → Int32} {σ : SG} (C : am_C G mL_law X) (hX : scAt G X Ls xs) (hL : Ls ≤ 3072) (hi : i + 6 ≤ Ls) (hR1 : 400 ≤ R.frames) (hR2 : 64 * 400 ≤ R.locals) (hc : c + 0 ≤ R.cells) (hn : n + 0 ≤ R.slots) (hC : atC I J σ) (hM : atM I J σ) (nx : ∀ (σ' : SG) (I' : Nat → Nat → Int32) (J' : Nat → Nat → Int64), atC I' J' σ' → atM I' J' σ' → am_A G mL_law X R 1305 [some (.ref 1000021), some (.ref 0), some (.ref 191), some (.int (iZ (i : Int)))] [] (215, kK, kR, I', J') c n) : am_A G mL_law X R 1233 [some (.ref 1000021), some (.ref 0), some (.ref 191), some (.int (iZ (i : Int)))] [] (215, kK, kR, I, J) c n := by
  refine am_aload_n (q := 1234) C dL_law_1233 rfl rfl ?_
  refine am_aload_n (q := 1235) C dL_law_1234 rfl rfl ?_
  refine am_iload_n (q := 1236) C dL_law_1235 rfl rfl ?_
  refine am_iconst (q := 1237) (v := iZ 1) C dL_law_1236 rfl rfl ?_
  refine am_iaddZ (q := 1238) C dL_law_1237 rfl ?_
  refine am_sld (q := 1239) (k := i + 1) C hX dL_law_1238 rfl (by omega) (by omega) ?_
  refine am_callV (q := 1242) (As := [.int (iZ ((xs (i + 1)).toInt))]) (rest := []) C mb_X10_lot im_X10_lot se_X10_lot ml_L_141 cb_10 kk_0 (show 0 < 215 by decide) dL_law_1239 rfl (sp_X10_lot hC (rg_x _)) rfl rfl ⟨by omega, by omega⟩ ⟨hc, hn⟩ (Nat.le_of_ble_eq_true rfl) (am_ri (fun v1 w' hw' => ?_))
  obtain ⟨e1, I1, J1, rfl, hC1, fC⟩ := hw'
  have hM1 := atM_frC hM fC
  refine am_aload_n (q := 1243) C dL_law_1242 rfl rfl ?_
  refine am_aload_n (q := 1244) C dL_law_1243 rfl rfl ?_
  refine am_iload_n (q := 1245) C dL_law_1244 rfl rfl ?_
  refine am_iconst (q := 1246) (v := iZ 1) C dL_law_1245 rfl rfl ?_
  refine am_iaddZ (q := 1247) C dL_law_1246 rfl ?_
  refine am_sld (q := 1248) (k := i + 1) C hX dL_law_1247 rfl (by omega) (by omega) ?_
  refine am_callV (q := 1251) (As := [.int (iZ ((xs (i + 1)).toInt))]) (rest := [.int v1]) C mb_X11_lot im_X11_lot se_X11_lot ml_L_144 cb_11 kk_191 (show 191 < 215 by decide) dL_law_1248 rfl (sp_X11_lot hM1 (rg_x _)) rfl rfl ⟨by omega, by omega⟩ ⟨hc, hn⟩ (Nat.le_of_ble_eq_true rfl) (am_ri (fun v2 w' hw' => ?_))
  obtain ⟨e2, I2, J2, rfl, hM2, fM⟩ := hw'
  have hC2 := atC_frM hC1 fM
  refine am_icmp_eq (q := 1254) (tgt := 1305) C dL_law_1251 (by decide) rfl (fun c1 => ?_) (fun c1 => ?_)
  · exact nx _ _ _ hC2 hM2
  · first | exact icmp_same e1 e2 (by assumption) | exact lcmp_same e1 e2 (by assumption) | exact lcmp_same e1 e2 (fun z => (show ¬ lg_cmp v1 v2 = 0 by assumption) ((lg_cmp_eq v1 v2).mpr z))
set_option maxRecDepth 4000 in
theorem cs_30 {X : am_X} {R : Room} {c n Ls i : Nat} {xs : Nat → Int32} {σ : SG} (C : am_C G mL_law X) (hX : scAt G X Ls xs) (hL : Ls ≤ 3072) (hi : i + 6 ≤ Ls) (hR1 : 400 ≤ R.frames) (hR2 : 64 * 400 ≤ R.locals) (hc : c + 0 ≤ R.cells) (hn : n + 0 ≤ R.slots) (hC : atC I J σ) (hM : atM I J σ) (nx : ∀ (σ' : SG) (I' : Nat → Nat → Int32) (J' : Nat → Nat → Int64), atC I' J' σ' → atM I' J' σ' → am_A G mL_law X R 1305 [some (.ref 1000021), some (.ref 0), some (.ref 191), some (.int (iZ (i : Int)))] [] (215, kK, kR, I', J') c n) : am_A G mL_law X R 1256 [some (.ref 1000021), some (.ref 0), some (.ref 191), some (.int (iZ (i : Int)))] [] (215, kK, kR, I, J) c n := by
  refine am_aload_n (q := 1257) C dL_law_1256 rfl rfl ?_
  refine am_aload_n (q := 1258) C dL_law_1257 rfl rfl ?_
  refine am_iload_n (q := 1259) C dL_law_1258 rfl rfl ?_
  refine am_iconst (q := 1260) (v := iZ 1) C dL_law_1259 rfl rfl ?_
  refine am_iaddZ (q := 1261) C dL_law_1260 rfl ?_
  refine am_sld (q := 1262) (k := i + 1) C hX dL_law_1261 rfl (by omega) (by omega) ?_
  refine am_callV (q := 1265) (As := [.int (iZ ((xs (i + 1)).toInt))]) (rest := []) C mb_X10_many im_X10_many se_X10_many ml_L_145 cb_10 kk_0 (show 0 < 215 by decide) dL_law_1262 rfl (sp_X10_many hC (rg_x _)) rfl rfl ⟨by omega, by omega⟩ ⟨hc, hn⟩ (Nat.le_of_ble_eq_true rfl) (am_ri (fun v1 w' hw' => ?_))
  obtain ⟨e1, I1, J1, rfl, hC1, fC⟩ := hw'
  have hM1 := atM_frC hM fC
  refine am_aload_n (q := 1266) C dL_law_1265 rfl rfl ?_
  refine am_aload_n (q := 1267) C dL_law_1266 rfl rfl ?_
  refine am_iload_n (q := 1268) C dL_law_1267 rfl rfl ?_
  refine am_iconst (q := 1269) (v := iZ 1) C dL_law_1268 rfl rfl ?_
  refine am_iaddZ (q := 1270) C dL_law_1269 rfl ?_
  refine am_sld (q := 1271) (k := i + 1) C hX dL_law_1270 rfl (by omega) (by omega) ?_
  refine am_callV (q := 1274) (As := [.int (iZ ((xs (i + 1)).toInt))]) (rest := [.int v1]) C mb_X11_many im_X11_many se_X11_many ml_L_148 cb_11 kk_191 (show 191 < 215 by decide) dL_law_1271 rfl (sp_X11_many hM1 (rg_x _)) rfl rfl ⟨by omega, by omega⟩ ⟨hc, hn⟩ (Nat.le_of_ble_eq_true rfl) (am_ri (fun v2 w' hw' => ?_))
  obtain ⟨e2, I2, J2, rfl, hM2, fM⟩ := hw'
  have hC2 := atC_frM hC1 fM
  refine am_icmp_eq (q := 1277) (tgt := 1305) C dL_law_1274 (by decide) rfl (fun c1 => ?_) (fun c1 => ?_)
  · exact nx _ _ _ hC2 hM2
  · first | exact icmp_same e1 e2 (by assumption) | exact lcmp_same e1 e2 (by assumption) | exact lcmp_same e1 e2 (fun z => (show ¬ lg_cmp v1 v2 = 0 by assumption) ((lg_cmp_eq v1 v2).mpr z))
set_option maxRecDepth 4000 in
theorem cs_31 {X : am_X} {R : Room} {c n Ls i : Nat} {xs : Nat → Int32} {σ : SG} (C : am_C G mL_law X) (hX : scAt G X Ls xs) (hL : Ls ≤ 3072) (hi : i + 6 ≤ Ls) (hR1 : 400 ≤ R.frames) (hR2 : 64 * 400 ≤ R.locals) (hc : c + 0 ≤ R.cells) (hn : n + 0 ≤ R.slots) (hC : atC I J σ) (hM : atM I J σ) (nx : ∀ (σ' : SG) (I' : Nat → Nat → Int32) (J' : Nat → Nat → Int64), atC I' J' σ' → atM I' J' σ' → am_A G mL_law X R 1305 [some (.ref 1000021), some (.ref 0), some (.ref 191), some (.int (iZ (i : Int)))] [] (215, kK, kR, I', J') c n) : am_A G mL_law X R 1279 [some (.ref 1000021), some (.ref 0), some (.ref 191), some (.int (iZ (i : Int)))] [] (215, kK, kR, I, J) c n := by
  refine am_aload_n (q := 1280) C dL_law_1279 rfl rfl ?_
  refine am_callV (q := 1283) (As := []) (rest := []) C mb_X10_keep im_X10_keep se_X10_keep ml_L_149 cb_10 kk_0 (show 0 < 215 by decide) dL_law_1280 rfl (sp_X10_keep hC) rfl rfl ⟨by omega, by omega⟩ ⟨hc, hn⟩ (Nat.le_of_ble_eq_true rfl) (am_ri (fun v1 w' hw' => ?_))
  obtain ⟨e1, I1, J1, rfl, hC1, fC⟩ := hw'
  have hM1 := atM_frC hM fC
  refine am_aload_n (q := 1284) C dL_law_1283 rfl rfl ?_
  refine am_callV (q := 1287) (As := []) (rest := [.int v1]) C mb_X11_keep im_X11_keep se_X11_keep ml_L_152 cb_11 kk_191 (show 191 < 215 by decide) dL_law_1284 rfl (sp_X11_keep hM1) rfl rfl ⟨by omega, by omega⟩ ⟨hc, hn⟩ (Nat.le_of_ble_eq_true rfl) (am_ri (fun v2 w' hw' => ?_))
  obtain ⟨e2, I2, J2, rfl, hM2, fM⟩ := hw'
  have hC2 := atC_frM hC1 fM
  refine am_icmp_eq (q := 1290) (tgt := 1305) C dL_law_1287 (by decide) rfl (fun c1 => ?_) (fun c1 => ?_)
  · exact nx _ _ _ hC2 hM2
  · first | exact icmp_same e1 e2 (by assumption) | exact lcmp_same e1 e2 (by assumption) | exact lcmp_same e1 e2 (fun z => (show ¬ lg_cmp v1 v2 = 0 by assumption) ((lg_cmp_eq v1 v2).mpr z))
set_option maxRecDepth 4000 in
theorem cs_32 {X : am_X} {R : Room} {c n Ls i : Nat} {xs : Nat → Int32} {σ : SG} (C : am_C G mL_law X) (hX : scAt G X Ls xs) (hL : Ls ≤ 3072) (hi : i + 6 ≤ Ls) (hR1 : 400 ≤ R.frames) (hR2 : 64 * 400 ≤ R.locals) (hc : c + 0 ≤ R.cells) (hn : n + 0 ≤ R.slots) (hC : atC I J σ) (hM : atM I J σ) (nx : ∀ (σ' : SG) (I' : Nat → Nat → Int32) (J' : Nat → Nat → Int64), atC I' J' σ' → atM I' J' σ' → am_A G mL_law X R 1305 [some (.ref 1000021), some (.ref 0), some (.ref 191), some (.int (iZ (i : Int)))] [] (215, kK, kR, I', J') c n) : am_A G mL_law X R 1292 [some (.ref 1000021), some (.ref 0), some (.ref 191), some (.int (iZ (i : Int)))] [] (215, kK, kR, I, J) c n := by
  refine am_aload_n (q := 1293) C dL_law_1292 rfl rfl ?_
  refine am_callV (q := 1296) (As := []) (rest := []) C mb_X10_again im_X10_again se_X10_again ml_L_153 cb_10 kk_0 (show 0 < 215 by decide) dL_law_1293 rfl (sp_X10_again hC) rfl rfl ⟨by omega, by omega⟩ ⟨hc, hn⟩ (Nat.le_of_ble_eq_true rfl) (am_ri (fun v1 w' hw' => ?_))
  obtain ⟨e1, I1, J1, rfl, hC1, fC⟩ := hw'
  have hM1 := atM_frC hM fC
  refine am_aload_n (q := 1297) C dL_law_1296 rfl rfl ?_
  refine am_callV (q := 1300) (As := []) (rest := [.int v1]) C mb_X11_again im_X11_again se_X11_again ml_L_156 cb_11 kk_191 (show 191 < 215 by decide) dL_law_1297 rfl (sp_X11_again hM1) rfl rfl ⟨by omega, by omega⟩ ⟨hc, hn⟩ (Nat.le_of_ble_eq_true rfl) (am_ri (fun v2 w' hw' => ?_))
  obtain ⟨e2, I2, J2, rfl, hM2, fM⟩ := hw'
  have hC2 := atC_frM hC1 fM
  refine am_icmp_eq (q := 1303) (tgt := 1305) C dL_law_1300 (by decide) rfl (fun c1 => ?_) (fun c1 => ?_)
  · exact nx _ _ _ hC2 hM2
  · first | exact icmp_same e1 e2 (by assumption) | exact lcmp_same e1 e2 (by assumption) | exact lcmp_same e1 e2 (fun z => (show ¬ lg_cmp v1 v2 = 0 by assumption) ((lg_cmp_eq v1 v2).mpr z))
