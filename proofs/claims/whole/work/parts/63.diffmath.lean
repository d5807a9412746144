/-- the Model's term of a difference -/
def dterm (f : Nat → Nat → Int64) (g h u v : Nat) : Int64 := if (g - u + (h - v)) % 2 = 0 then chs (g : Int) u * chs (h : Int) v * f u v else -(chs (g : Int) u * chs (h : Int) v * f u v)
def dsO (f : Nat → Nat → Int64) (g h : Nat) : Nat → Nat → Int64 → Int64
  | 0, _, acc => acc
  | k + 1, u, acc => dsO f g h k (u + 1) (lpS (fun v => dterm f g h u v) (h + 1) 0 acc)
def dsM (f : Nat → Nat → Int64) (g h : Nat) : Int64 := dsO f g h (g + 1) 0 0
theorem dsO_0 (f : Nat → Nat → Int64) (g h u : Nat) (a : Int64) : dsO f g h 0 u a = a := rfl
theorem dsO_1 (f : Nat → Nat → Int64) (g h k u : Nat) (a : Int64) : dsO f g h (k + 1) u a = dsO f g h k (u + 1) (lpS (fun v => dterm f g h u v) (h + 1) 0 a) := rfl
theorem lpS_0 (f : Nat → Int64) (k : Nat) (a : Int64) : lpS f 0 k a = a := rfl
theorem lpS_1 (f : Nat → Int64) (n k : Nat) (a : Int64) : lpS f (n + 1) k a = lpS f n (k + 1) (a + f k) := rfl
theorem dA_0 (f : Nat → Nat → Int64) (u q : Nat) : dA f 0 u q = f u q := rfl
theorem dA_1 (f : Nat → Nat → Int64) (s u q : Nat) : dA f (s + 1) u q = if s + 1 ≤ u then dA f s u q - dA f s (u - 1) q else dA f s u q := rfl
theorem dB_0 (f : Nat → Nat → Int64) (u q : Nat) : dB f 0 u q = f u q := rfl
theorem dB_1 (f : Nat → Nat → Int64) (s u q : Nat) : dB f (s + 1) u q = if s + 1 ≤ q then dB f s u q - dB f s u (q - 1) else dB f s u q := rfl
theorem dA_hi (f : Nat → Nat → Int64) (u q : Nat) : ∀ s, u ≤ s → dA f s u q = dA f u u q
  | 0, h => by rw [show u = 0 by omega]
  | s + 1, h => by
    by_cases e : u = s + 1
    · rw [e]
    · rw [dA_1, if_neg (by omega)]
      exact dA_hi f u q s (by omega)
theorem dB_hi (f : Nat → Nat → Int64) (u q : Nat) : ∀ s, q ≤ s → dB f s u q = dB f q u q
  | 0, h => by rw [show q = 0 by omega]
  | s + 1, h => by
    by_cases e : q = s + 1
    · rw [e]
    · rw [dB_1, if_neg (by omega)]
      exact dB_hi f u q s (by omega)
/-- q fold differences up of a row's values -/
def bk (a : Nat → Int64) : Nat → Nat → Int64
  | 0, q => a q
  | s + 1, q => if s + 1 ≤ q then bk a s q - bk a s (q - 1) else bk a s q
theorem bk_1 (a : Nat → Int64) (s q : Nat) : bk a (s + 1) q = if s + 1 ≤ q then bk a s q - bk a s (q - 1) else bk a s q := rfl
theorem dA_bk (f : Nat → Nat → Int64) (q : Nat) : ∀ s u, dA f s u q = bk (fun u => f u q) s u
  | 0, u => rfl
  | s + 1, u => by rw [dA_1, bk_1, dA_bk f q s u, dA_bk f q s (u - 1)]
theorem dB_bk (f : Nat → Nat → Int64) (u : Nat) : ∀ s q, dB f s u q = bk (fun q => f u q) s q
  | 0, q => rfl
  | s + 1, q => by rw [dB_1, bk_1, dB_bk f u s q, dB_bk f u s (q - 1)]
theorem bk_hi (a : Nat → Int64) (q : Nat) : ∀ s, q ≤ s → bk a s q = bk a q q
  | 0, h => by rw [show q = 0 by omega]
  | s + 1, h => by
    by_cases e : q = s + 1
    · rw [e]
    · rw [bk_1, if_neg (by omega)]
      exact bk_hi a q s (by omega)
theorem bk_c0 (a : Nat → Int64) : bk a 0 0 = a 0 := by
  rfl
theorem bk_c1 (a : Nat → Int64) : bk a 1 1 = a 1 - a 0 := by
  have e : bk a 1 1 = (a 1 - a 0) := rfl
  rw [e]
theorem bk_c2 (a : Nat → Int64) : bk a 2 2 = a 2 - 2 * a 1 + a 0 := by
  have e : bk a 2 2 = ((a 2 - a 1) - (a 1 - a 0)) := rfl
  rw [e]
  grind
theorem bk_c3 (a : Nat → Int64) : bk a 3 3 = a 3 - 3 * a 2 + 3 * a 1 - a 0 := by
  have e : bk a 3 3 = (((a 3 - a 2) - (a 2 - a 1)) - ((a 2 - a 1) - (a 1 - a 0))) := rfl
  rw [e]
  grind
theorem bk_c4 (a : Nat → Int64) : bk a 4 4 = a 4 - 4 * a 3 + 6 * a 2 - 4 * a 1 + a 0 := by
  have e : bk a 4 4 = ((((a 4 - a 3) - (a 3 - a 2)) - ((a 3 - a 2) - (a 2 - a 1))) - (((a 3 - a 2) - (a 2 - a 1)) - ((a 2 - a 1) - (a 1 - a 0)))) := rfl
  rw [e]
  grind
theorem ch_0_0 : chs 0 0 = 1 := by decide +kernel
theorem ch_1_0 : chs 1 0 = 1 := by decide +kernel
theorem ch_1_1 : chs 1 1 = 1 := by decide +kernel
theorem ch_2_0 : chs 2 0 = 1 := by decide +kernel
theorem ch_2_1 : chs 2 1 = 2 := by decide +kernel
theorem ch_2_2 : chs 2 2 = 1 := by decide +kernel
theorem ch_3_0 : chs 3 0 = 1 := by decide +kernel
theorem ch_3_1 : chs 3 1 = 3 := by decide +kernel
theorem ch_3_2 : chs 3 2 = 3 := by decide +kernel
theorem ch_3_3 : chs 3 3 = 1 := by decide +kernel
theorem ch_4_0 : chs 4 0 = 1 := by decide +kernel
theorem ch_4_1 : chs 4 1 = 4 := by decide +kernel
theorem ch_4_2 : chs 4 2 = 6 := by decide +kernel
theorem ch_4_3 : chs 4 3 = 4 := by decide +kernel
theorem ch_4_4 : chs 4 4 = 1 := by decide +kernel
theorem ds_0_0 (f : Nat → Nat → Int64) : dsM f 0 0 = bk (fun q => bk (fun u => f u q) 0 0) 0 0 := by
  have e : dsM f 0 0 = (0 + chs 0 0 * chs 0 0 * f 0 0) := rfl
  rw [e, bk_c0]
  simp only [bk_c0, ch_0_0]
  grind
theorem ds_0_1 (f : Nat → Nat → Int64) : dsM f 0 1 = bk (fun q => bk (fun u => f u q) 0 0) 1 1 := by
  have e : dsM f 0 1 = ((0 + -(chs 0 0 * chs 1 0 * f 0 0)) + chs 0 0 * chs 1 1 * f 0 1) := rfl
  rw [e, bk_c1]
  simp only [bk_c0, ch_0_0, ch_1_0, ch_1_1]
  grind
theorem ds_0_2 (f : Nat → Nat → Int64) : dsM f 0 2 = bk (fun q => bk (fun u => f u q) 0 0) 2 2 := by
  have e : dsM f 0 2 = (((0 + chs 0 0 * chs 2 0 * f 0 0) + -(chs 0 0 * chs 2 1 * f 0 1)) + chs 0 0 * chs 2 2 * f 0 2) := rfl
  rw [e, bk_c2]
  simp only [bk_c0, ch_0_0, ch_2_0, ch_2_1, ch_2_2]
  grind
theorem ds_0_3 (f : Nat → Nat → Int64) : dsM f 0 3 = bk (fun q => bk (fun u => f u q) 0 0) 3 3 := by
  have e : dsM f 0 3 = ((((0 + -(chs 0 0 * chs 3 0 * f 0 0)) + chs 0 0 * chs 3 1 * f 0 1) + -(chs 0 0 * chs 3 2 * f 0 2)) + chs 0 0 * chs 3 3 * f 0 3) := rfl
  rw [e, bk_c3]
  simp only [bk_c0, ch_0_0, ch_3_0, ch_3_1, ch_3_2, ch_3_3]
  grind
theorem ds_0_4 (f : Nat → Nat → Int64) : dsM f 0 4 = bk (fun q => bk (fun u => f u q) 0 0) 4 4 := by
  have e : dsM f 0 4 = (((((0 + chs 0 0 * chs 4 0 * f 0 0) + -(chs 0 0 * chs 4 1 * f 0 1)) + chs 0 0 * chs 4 2 * f 0 2) + -(chs 0 0 * chs 4 3 * f 0 3)) + chs 0 0 * chs 4 4 * f 0 4) := rfl
  rw [e, bk_c4]
  simp only [bk_c0, ch_0_0, ch_4_0, ch_4_1, ch_4_2, ch_4_3, ch_4_4]
  grind
theorem ds_1_0 (f : Nat → Nat → Int64) : dsM f 1 0 = bk (fun q => bk (fun u => f u q) 1 1) 0 0 := by
  have e : dsM f 1 0 = ((0 + -(chs 1 0 * chs 0 0 * f 0 0)) + chs 1 1 * chs 0 0 * f 1 0) := rfl
  rw [e, bk_c0]
  simp only [bk_c1, ch_0_0, ch_1_0, ch_1_1]
  grind
theorem ds_1_1 (f : Nat → Nat → Int64) : dsM f 1 1 = bk (fun q => bk (fun u => f u q) 1 1) 1 1 := by
  have e : dsM f 1 1 = ((((0 + chs 1 0 * chs 1 0 * f 0 0) + -(chs 1 0 * chs 1 1 * f 0 1)) + -(chs 1 1 * chs 1 0 * f 1 0)) + chs 1 1 * chs 1 1 * f 1 1) := rfl
  rw [e, bk_c1]
  simp only [bk_c1, ch_1_0, ch_1_1]
  grind
theorem ds_1_2 (f : Nat → Nat → Int64) : dsM f 1 2 = bk (fun q => bk (fun u => f u q) 1 1) 2 2 := by
  have e : dsM f 1 2 = ((((((0 + -(chs 1 0 * chs 2 0 * f 0 0)) + chs 1 0 * chs 2 1 * f 0 1) + -(chs 1 0 * chs 2 2 * f 0 2)) + chs 1 1 * chs 2 0 * f 1 0) + -(chs 1 1 * chs 2 1 * f 1 1)) + chs 1 1 * chs 2 2 * f 1 2) := rfl
  rw [e, bk_c2]
  simp only [bk_c1, ch_1_0, ch_1_1, ch_2_0, ch_2_1, ch_2_2]
  grind
theorem ds_1_3 (f : Nat → Nat → Int64) : dsM f 1 3 = bk (fun q => bk (fun u => f u q) 1 1) 3 3 := by
  have e : dsM f 1 3 = ((((((((0 + chs 1 0 * chs 3 0 * f 0 0) + -(chs 1 0 * chs 3 1 * f 0 1)) + chs 1 0 * chs 3 2 * f 0 2) + -(chs 1 0 * chs 3 3 * f 0 3)) + -(chs 1 1 * chs 3 0 * f 1 0)) + chs 1 1 * chs 3 1 * f 1 1) + -(chs 1 1 * chs 3 2 * f 1 2)) + chs 1 1 * chs 3 3 * f 1 3) := rfl
  rw [e, bk_c3]
  simp only [bk_c1, ch_1_0, ch_1_1, ch_3_0, ch_3_1, ch_3_2, ch_3_3]
  grind
theorem ds_2_0 (f : Nat → Nat → Int64) : dsM f 2 0 = bk (fun q => bk (fun u => f u q) 2 2) 0 0 := by
  have e : dsM f 2 0 = (((0 + chs 2 0 * chs 0 0 * f 0 0) + -(chs 2 1 * chs 0 0 * f 1 0)) + chs 2 2 * chs 0 0 * f 2 0) := rfl
  rw [e, bk_c0]
  simp only [bk_c2, ch_0_0, ch_2_0, ch_2_1, ch_2_2]
  grind
theorem ds_2_1 (f : Nat → Nat → Int64) : dsM f 2 1 = bk (fun q => bk (fun u => f u q) 2 2) 1 1 := by
  have e : dsM f 2 1 = ((((((0 + -(chs 2 0 * chs 1 0 * f 0 0)) + chs 2 0 * chs 1 1 * f 0 1) + chs 2 1 * chs 1 0 * f 1 0) + -(chs 2 1 * chs 1 1 * f 1 1)) + -(chs 2 2 * chs 1 0 * f 2 0)) + chs 2 2 * chs 1 1 * f 2 1) := rfl
  rw [e, bk_c1]
  simp only [bk_c2, ch_1_0, ch_1_1, ch_2_0, ch_2_1, ch_2_2]
  grind
theorem ds_2_2 (f : Nat → Nat → Int64) : dsM f 2 2 = bk (fun q => bk (fun u => f u q) 2 2) 2 2 := by
  have e : dsM f 2 2 = (((((((((0 + chs 2 0 * chs 2 0 * f 0 0) + -(chs 2 0 * chs 2 1 * f 0 1)) + chs 2 0 * chs 2 2 * f 0 2) + -(chs 2 1 * chs 2 0 * f 1 0)) + chs 2 1 * chs 2 1 * f 1 1) + -(chs 2 1 * chs 2 2 * f 1 2)) + chs 2 2 * chs 2 0 * f 2 0) + -(chs 2 2 * chs 2 1 * f 2 1)) + chs 2 2 * chs 2 2 * f 2 2) := rfl
  rw [e, bk_c2]
  simp only [bk_c2, ch_2_0, ch_2_1, ch_2_2]
  grind
theorem ds_3_0 (f : Nat → Nat → Int64) : dsM f 3 0 = bk (fun q => bk (fun u => f u q) 3 3) 0 0 := by
  have e : dsM f 3 0 = ((((0 + -(chs 3 0 * chs 0 0 * f 0 0)) + chs 3 1 * chs 0 0 * f 1 0) + -(chs 3 2 * chs 0 0 * f 2 0)) + chs 3 3 * chs 0 0 * f 3 0) := rfl
  rw [e, bk_c0]
  simp only [bk_c3, ch_0_0, ch_3_0, ch_3_1, ch_3_2, ch_3_3]
  grind
theorem ds_3_1 (f : Nat → Nat → Int64) : dsM f 3 1 = bk (fun q => bk (fun u => f u q) 3 3) 1 1 := by
  have e : dsM f 3 1 = ((((((((0 + chs 3 0 * chs 1 0 * f 0 0) + -(chs 3 0 * chs 1 1 * f 0 1)) + -(chs 3 1 * chs 1 0 * f 1 0)) + chs 3 1 * chs 1 1 * f 1 1) + chs 3 2 * chs 1 0 * f 2 0) + -(chs 3 2 * chs 1 1 * f 2 1)) + -(chs 3 3 * chs 1 0 * f 3 0)) + chs 3 3 * chs 1 1 * f 3 1) := rfl
  rw [e, bk_c1]
  simp only [bk_c3, ch_1_0, ch_1_1, ch_3_0, ch_3_1, ch_3_2, ch_3_3]
  grind
theorem ds_4_0 (f : Nat → Nat → Int64) : dsM f 4 0 = bk (fun q => bk (fun u => f u q) 4 4) 0 0 := by
  have e : dsM f 4 0 = (((((0 + chs 4 0 * chs 0 0 * f 0 0) + -(chs 4 1 * chs 0 0 * f 1 0)) + chs 4 2 * chs 0 0 * f 2 0) + -(chs 4 3 * chs 0 0 * f 3 0)) + chs 4 4 * chs 0 0 * f 4 0) := rfl
  rw [e, bk_c0]
  simp only [bk_c4, ch_0_0, ch_4_0, ch_4_1, ch_4_2, ch_4_3, ch_4_4]
  grind
theorem ds_dD (f : Nat → Nat → Int64) {n g h : Nat} (hn : n ≤ 4) (hg : g + h ≤ n) : dsM f g h = dD f n g h := by
  have e : dD f n g h = bk (fun q => bk (fun u => f u q) g g) h h := by
    unfold dD
    rw [dB_bk, bk_hi _ h n (by omega)]
    congr 1
    funext q
    rw [dA_bk, bk_hi _ g n (by omega)]
  rw [e]
  rcases (show (g = 0 ∧ h = 0) ∨ (g = 0 ∧ h = 1) ∨ (g = 0 ∧ h = 2) ∨ (g = 0 ∧ h = 3) ∨ (g = 0 ∧ h = 4) ∨ (g = 1 ∧ h = 0) ∨ (g = 1 ∧ h = 1) ∨ (g = 1 ∧ h = 2) ∨ (g = 1 ∧ h = 3) ∨ (g = 2 ∧ h = 0) ∨ (g = 2 ∧ h = 1) ∨ (g = 2 ∧ h = 2) ∨ (g = 3 ∧ h = 0) ∨ (g = 3 ∧ h = 1) ∨ (g = 4 ∧ h = 0) by omega) with ⟨rfl, rfl⟩ | ⟨rfl, rfl⟩ | ⟨rfl, rfl⟩ | ⟨rfl, rfl⟩ | ⟨rfl, rfl⟩ | ⟨rfl, rfl⟩ | ⟨rfl, rfl⟩ | ⟨rfl, rfl⟩ | ⟨rfl, rfl⟩ | ⟨rfl, rfl⟩ | ⟨rfl, rfl⟩ | ⟨rfl, rfl⟩ | ⟨rfl, rfl⟩ | ⟨rfl, rfl⟩ | ⟨rfl, rfl⟩
  · exact ds_0_0 f
  · exact ds_0_1 f
  · exact ds_0_2 f
  · exact ds_0_3 f
  · exact ds_0_4 f
  · exact ds_1_0 f
  · exact ds_1_1 f
  · exact ds_1_2 f
  · exact ds_1_3 f
  · exact ds_2_0 f
  · exact ds_2_1 f
  · exact ds_2_2 f
  · exact ds_3_0 f
  · exact ds_3_1 f
  · exact ds_4_0 f
theorem lpS_cg {f f' : Nat → Int64} : ∀ n k a, (∀ j, k ≤ j → j < k + n → f j = f' j) → lpS f n k a = lpS f' n k a
  | 0, k, a, _ => rfl
  | n + 1, k, a, h => by
    rw [lpS_1, lpS_1, h k (by omega) (by omega)]
    exact lpS_cg n (k + 1) _ (fun j h1 h2 => h j (by omega) (by omega))
theorem tdS_1 (D : Nat → Nat → Int64) (ci cj : Int) (n k u : Nat) (a : Int64) : tdS D ci cj n (k + 1) u a = tdS D ci cj n k (u + 1) (lpS (fun q => D u q * chs ci u * chs cj q) (n + 1 - u) 0 a) := rfl
theorem tdS_cg {D D' : Nat → Nat → Int64} (ci cj : Int) (n : Nat) (hD : ∀ u q, u + q ≤ n → D u q = D' u q) : ∀ k u a, u + k = n + 1 → tdS D ci cj n k u a = tdS D' ci cj n k u a
  | 0, u, a, _ => rfl
  | k + 1, u, a, h => by
    rw [tdS_1, tdS_1, lpS_cg (f' := fun q => D' u q * chs ci u * chs cj q) _ _ _ (fun j h1 h2 => congrArg (fun z => z * chs ci u * chs cj j) (hD u j (by omega)))]
    exact tdS_cg ci cj n hD k (u + 1) _ (by omega)
/-- the Model's formula -/
def fmM (t : PT) (c : Nat) (x y : Int) : Int64 := tdS (dsM (fmF t c x y)) (lI (raysA t) (perP t (pm t)) c x y) (lJ (raysA t) (perP t (pm t)) c x y) (pm t - 2) (pm t - 2 + 1) 0 0
theorem fm_eq {t : PT} (h : okP t) (c : Nat) (x y : Int) : fmM t c x y = fmT t c x y := by
  have hm := h.1
  exact tdS_cg _ _ _ (fun u q huq => ds_dD _ (by omega) huq) _ _ _ (by omega)
