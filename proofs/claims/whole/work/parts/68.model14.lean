variable {G : am_G} {I : Nat → Nat → Int32} {J : Nat → Nat → Int64}
def hvL (b : Nat → Nat) : Nat → Nat → Int → Int
  | 0, _, acc => acc
  | k + 1, p, acc => hvL b k (p + 1) (27 * acc + b p - 96)
/-- letters as a number -/
def hvP (n : Nat) (b : Nat → Nat) (s e : Nat) : Int := if srt n b s = 1 then (if 5 < e - s then -1 else hvL b (e - s) s 0) else 0
theorem hv_cases {n s e : Nat} {b : Nat → Nat} (hz : tkZ n b s = e) (hs : s ≤ e) (hen : e ≤ n) :
    (hvP n b s e = 0 ∧ (e ≤ s ∨ ¬ (97 ≤ b s ∧ b s ≤ 122))) ∨ (5 < e - s ∧ hvP n b s e = -1) ∨ (e - s ≤ 5 ∧ (1 ≤ e - s) ∧ (∀ j, j < e - s → 97 ≤ b (s + j) ∧ b (s + j) ≤ 122) ∧ hvP n b s e = hvL b (e - s) s 0) := by
  by_cases h1 : srt n b s = 1
  · have h2 := srt_1.mp h1
    have h3 := tkZ_gt (n := n) (b := b) (s := s) (by omega)
    by_cases h4 : 5 < e - s
    · exact Or.inr (Or.inl ⟨h4, by unfold hvP; rw [if_pos h1, if_pos h4]⟩)
    · refine Or.inr (Or.inr ⟨by omega, by omega, fun j hj => ?_, by unfold hvP; rw [if_pos h1, if_neg h4]⟩)
      exact (srt_1.mp ((tk_srt (n := n) (b := b) (s := s) (j := s + j) (by omega) (by omega)).trans h1)).2
  · refine Or.inl ⟨by unfold hvP; rw [if_neg h1], ?_⟩
    by_cases h2 : s < n
    · exact Or.inr (fun h => h1 (srt_1.mpr ⟨h2, h⟩))
    · omega
theorem hvL_1 (b : Nat → Nat) (s : Nat) : hvL b 1 s 0 = 1 * ((b (s) : Int) - 96) := by
  show 27 * 0 + (b s : Int) - 96 = _
  omega
theorem hvL_2 (b : Nat → Nat) (s : Nat) : hvL b 2 s 0 = 27 * ((b (s) : Int) - 96) + 1 * ((b (s + 1) : Int) - 96) := by
  show 27 * (27 * 0 + (b s : Int) - 96) + (b (s + 1) : Int) - 96 = _
  omega
theorem hvL_3 (b : Nat → Nat) (s : Nat) : hvL b 3 s 0 = 729 * ((b (s) : Int) - 96) + 27 * ((b (s + 1) : Int) - 96) + 1 * ((b (s + 2) : Int) - 96) := by
  show 27 * (27 * (27 * 0 + (b s : Int) - 96) + (b (s + 1) : Int) - 96) + (b (s + 1 + 1) : Int) - 96 = _
  simp only [Nat.add_assoc, Nat.reduceAdd]
  omega
theorem hvL_4 (b : Nat → Nat) (s : Nat) : hvL b 4 s 0 = 19683 * ((b (s) : Int) - 96) + 729 * ((b (s + 1) : Int) - 96) + 27 * ((b (s + 2) : Int) - 96) + 1 * ((b (s + 3) : Int) - 96) := by
  show 27 * (27 * (27 * (27 * 0 + (b s : Int) - 96) + (b (s + 1) : Int) - 96) + (b (s + 1 + 1) : Int) - 96) + (b (s + 1 + 1 + 1) : Int) - 96 = _
  simp only [Nat.add_assoc, Nat.reduceAdd]
  omega
theorem hvL_5 (b : Nat → Nat) (s : Nat) : hvL b 5 s 0 = 531441 * ((b (s) : Int) - 96) + 19683 * ((b (s + 1) : Int) - 96) + 729 * ((b (s + 2) : Int) - 96) + 27 * ((b (s + 3) : Int) - 96) + 1 * ((b (s + 4) : Int) - 96) := by
  show 27 * (27 * (27 * (27 * (27 * 0 + (b s : Int) - 96) + (b (s + 1) : Int) - 96) + (b (s + 1 + 1) : Int) - 96) + (b (s + 1 + 1 + 1) : Int) - 96) + (b (s + 1 + 1 + 1 + 1) : Int) - 96 = _
  simp only [Nat.add_assoc, Nat.reduceAdd]
  omega
theorem spl_0 {b : Nat → Nat} {s e : Nat} : spl b s e 0 = true ↔ e - s = 3 ∧ b (s + 0) = 110 ∧ b (s + 1) = 111 ∧ b (s + 2) = 116 := by
  unfold spl
  rw [decide_eq_true_iff]
  refine ⟨fun h => ⟨h.1, h.2 0 (by decide), h.2 1 (by decide), h.2 2 (by decide)⟩, fun h => ⟨h.1, fun j hj => ?_⟩⟩
  have hj2 : j < 3 := hj
  obtain ⟨h0, g0, g1, g2⟩ := h
  rcases (show j = 0 ∨ j = 1 ∨ j = 2 by omega) with rfl | rfl | rfl
  · exact g0
  · exact g1
  · exact g2
theorem spl_1 {b : Nat → Nat} {s e : Nat} : spl b s e 1 = true ↔ e - s = 3 ∧ b (s + 0) = 97 ∧ b (s + 1) = 110 ∧ b (s + 2) = 121 := by
  unfold spl
  rw [decide_eq_true_iff]
  refine ⟨fun h => ⟨h.1, h.2 0 (by decide), h.2 1 (by decide), h.2 2 (by decide)⟩, fun h => ⟨h.1, fun j hj => ?_⟩⟩
  have hj2 : j < 3 := hj
  obtain ⟨h0, g0, g1, g2⟩ := h
  rcases (show j = 0 ∨ j = 1 ∨ j = 2 by omega) with rfl | rfl | rfl
  · exact g0
  · exact g1
  · exact g2
theorem spl_2 {b : Nat → Nat} {s e : Nat} : spl b s e 2 = true ↔ e - s = 1 ∧ b (s + 0) = 40 := by
  unfold spl
  rw [decide_eq_true_iff]
  refine ⟨fun h => ⟨h.1, h.2 0 (by decide)⟩, fun h => ⟨h.1, fun j hj => ?_⟩⟩
  have hj2 : j < 1 := hj
  obtain ⟨h0, g0⟩ := h
  rcases (show j = 0 by omega) with rfl
  · exact g0
theorem spl_3 {b : Nat → Nat} {s e : Nat} : spl b s e 3 = true ↔ e - s = 4 ∧ b (s + 0) = 109 ∧ b (s + 1) = 111 ∧ b (s + 2) = 115 ∧ b (s + 3) = 116 := by
  unfold spl
  rw [decide_eq_true_iff]
  refine ⟨fun h => ⟨h.1, h.2 0 (by decide), h.2 1 (by decide), h.2 2 (by decide), h.2 3 (by decide)⟩, fun h => ⟨h.1, fun j hj => ?_⟩⟩
  have hj2 : j < 4 := hj
  obtain ⟨h0, g0, g1, g2, g3⟩ := h
  rcases (show j = 0 ∨ j = 1 ∨ j = 2 ∨ j = 3 by omega) with rfl | rfl | rfl | rfl
  · exact g0
  · exact g1
  · exact g2
  · exact g3
theorem spl_4 {b : Nat → Nat} {s e : Nat} : spl b s e 4 = true ↔ e - s = 5 ∧ b (s + 0) = 108 ∧ b (s + 1) = 101 ∧ b (s + 2) = 97 ∧ b (s + 3) = 115 ∧ b (s + 4) = 116 := by
  unfold spl
  rw [decide_eq_true_iff]
  refine ⟨fun h => ⟨h.1, h.2 0 (by decide), h.2 1 (by decide), h.2 2 (by decide), h.2 3 (by decide), h.2 4 (by decide)⟩, fun h => ⟨h.1, fun j hj => ?_⟩⟩
  have hj2 : j < 5 := hj
  obtain ⟨h0, g0, g1, g2, g3, g4⟩ := h
  rcases (show j = 0 ∨ j = 1 ∨ j = 2 ∨ j = 3 ∨ j = 4 by omega) with rfl | rfl | rfl | rfl | rfl
  · exact g0
  · exact g1
  · exact g2
  · exact g3
  · exact g4
theorem spl_5 {b : Nat → Nat} {s e : Nat} : spl b s e 5 = true ↔ e - s = 2 ∧ b (s + 0) = 98 ∧ b (s + 1) = 121 := by
  unfold spl
  rw [decide_eq_true_iff]
  refine ⟨fun h => ⟨h.1, h.2 0 (by decide), h.2 1 (by decide)⟩, fun h => ⟨h.1, fun j hj => ?_⟩⟩
  have hj2 : j < 2 := hj
  obtain ⟨h0, g0, g1⟩ := h
  rcases (show j = 0 ∨ j = 1 by omega) with rfl | rfl
  · exact g0
  · exact g1
theorem spl_6 {b : Nat → Nat} {s e : Nat} : spl b s e 6 = true ↔ e - s = 2 ∧ b (s + 0) = 105 ∧ b (s + 1) = 115 := by
  unfold spl
  rw [decide_eq_true_iff]
  refine ⟨fun h => ⟨h.1, h.2 0 (by decide), h.2 1 (by decide)⟩, fun h => ⟨h.1, fun j hj => ?_⟩⟩
  have hj2 : j < 2 := hj
  obtain ⟨h0, g0, g1⟩ := h
  rcases (show j = 0 ∨ j = 1 by omega) with rfl | rfl
  · exact g0
  · exact g1
theorem spl_7 {b : Nat → Nat} {s e : Nat} : spl b s e 7 = true ↔ e - s = 3 ∧ b (s + 0) = 97 ∧ b (s + 1) = 110 ∧ b (s + 2) = 100 := by
  unfold spl
  rw [decide_eq_true_iff]
  refine ⟨fun h => ⟨h.1, h.2 0 (by decide), h.2 1 (by decide), h.2 2 (by decide)⟩, fun h => ⟨h.1, fun j hj => ?_⟩⟩
  have hj2 : j < 3 := hj
  obtain ⟨h0, g0, g1, g2⟩ := h
  rcases (show j = 0 ∨ j = 1 ∨ j = 2 by omega) with rfl | rfl | rfl
  · exact g0
  · exact g1
  · exact g2
theorem spl_8 {b : Nat → Nat} {s e : Nat} : spl b s e 8 = true ↔ e - s = 2 ∧ b (s + 0) = 111 ∧ b (s + 1) = 114 := by
  unfold spl
  rw [decide_eq_true_iff]
  refine ⟨fun h => ⟨h.1, h.2 0 (by decide), h.2 1 (by decide)⟩, fun h => ⟨h.1, fun j hj => ?_⟩⟩
  have hj2 : j < 2 := hj
  obtain ⟨h0, g0, g1⟩ := h
  rcases (show j = 0 ∨ j = 1 by omega) with rfl | rfl
  · exact g0
  · exact g1
theorem spl_9 {b : Nat → Nat} {s e : Nat} : spl b s e 9 = true ↔ e - s = 1 ∧ b (s + 0) = 41 := by
  unfold spl
  rw [decide_eq_true_iff]
  refine ⟨fun h => ⟨h.1, h.2 0 (by decide)⟩, fun h => ⟨h.1, fun j hj => ?_⟩⟩
  have hj2 : j < 1 := hj
  obtain ⟨h0, g0⟩ := h
  rcases (show j = 0 by omega) with rfl
  · exact g0
theorem hv_rg {n s e : Nat} {b : Nat → Nat} (hz : tkZ n b s = e) (hs : s ≤ e) (hen : e ≤ n) : -1 ≤ hvP n b s e ∧ hvP n b s e ≤ 20000000 := by
  rcases hv_cases hz hs hen with h | h | ⟨h1, h2, h3, h4⟩
  · omega
  · omega
  · rw [h4]
    rcases (show e - s = 1 ∨ e - s = 2 ∨ e - s = 3 ∨ e - s = 4 ∨ e - s = 5 by omega) with h | h | h | h | h
    · rw [h, hvL_1]
      have g0 := h3 0 (by omega)
      rw [Nat.add_zero] at g0
      omega
    · rw [h, hvL_2]
      have g0 := h3 0 (by omega)
      have g1 := h3 1 (by omega)
      rw [Nat.add_zero] at g0
      omega
    · rw [h, hvL_3]
      have g0 := h3 0 (by omega)
      have g1 := h3 1 (by omega)
      have g2 := h3 2 (by omega)
      rw [Nat.add_zero] at g0
      omega
    · rw [h, hvL_4]
      have g0 := h3 0 (by omega)
      have g1 := h3 1 (by omega)
      have g2 := h3 2 (by omega)
      have g3 := h3 3 (by omega)
      rw [Nat.add_zero] at g0
      omega
    · rw [h, hvL_5]
      have g0 := h3 0 (by omega)
      have g1 := h3 1 (by omega)
      have g2 := h3 2 (by omega)
      have g3 := h3 3 (by omega)
      have g4 := h3 4 (by omega)
      rw [Nat.add_zero] at g0
      omega
theorem hv_0 {n s e : Nat} {b : Nat → Nat} (hz : tkZ n b s = e) (hs : s ≤ e) (hen : e ≤ n) : hvP n b s e = 10631 ↔ spl b s e 0 = true := by
  rw [spl_0, Nat.add_zero]
  rcases hv_cases hz hs hen with h | h | ⟨h1, h2, h3, h4⟩
  · omega
  · omega
  · rw [h4]
    rcases (show e - s = 1 ∨ e - s = 2 ∨ e - s = 3 ∨ e - s = 4 ∨ e - s = 5 by omega) with h | h | h | h | h
    · rw [h, hvL_1]
      have g0 := h3 0 (by omega)
      rw [Nat.add_zero] at g0
      omega
    · rw [h, hvL_2]
      have g0 := h3 0 (by omega)
      have g1 := h3 1 (by omega)
      rw [Nat.add_zero] at g0
      omega
    · rw [h, hvL_3]
      have g0 := h3 0 (by omega)
      have g1 := h3 1 (by omega)
      have g2 := h3 2 (by omega)
      rw [Nat.add_zero] at g0
      omega
    · rw [h, hvL_4]
      have g0 := h3 0 (by omega)
      have g1 := h3 1 (by omega)
      have g2 := h3 2 (by omega)
      have g3 := h3 3 (by omega)
      rw [Nat.add_zero] at g0
      omega
    · rw [h, hvL_5]
      have g0 := h3 0 (by omega)
      have g1 := h3 1 (by omega)
      have g2 := h3 2 (by omega)
      have g3 := h3 3 (by omega)
      have g4 := h3 4 (by omega)
      rw [Nat.add_zero] at g0
      omega
theorem hv_1 {n s e : Nat} {b : Nat → Nat} (hz : tkZ n b s = e) (hs : s ≤ e) (hen : e ≤ n) : hvP n b s e = 1132 ↔ spl b s e 1 = true := by
  rw [spl_1, Nat.add_zero]
  rcases hv_cases hz hs hen with h | h | ⟨h1, h2, h3, h4⟩
  · omega
  · omega
  · rw [h4]
    rcases (show e - s = 1 ∨ e - s = 2 ∨ e - s = 3 ∨ e - s = 4 ∨ e - s = 5 by omega) with h | h | h | h | h
    · rw [h, hvL_1]
      have g0 := h3 0 (by omega)
      rw [Nat.add_zero] at g0
      omega
    · rw [h, hvL_2]
      have g0 := h3 0 (by omega)
      have g1 := h3 1 (by omega)
      rw [Nat.add_zero] at g0
      omega
    · rw [h, hvL_3]
      have g0 := h3 0 (by omega)
      have g1 := h3 1 (by omega)
      have g2 := h3 2 (by omega)
      rw [Nat.add_zero] at g0
      omega
    · rw [h, hvL_4]
      have g0 := h3 0 (by omega)
      have g1 := h3 1 (by omega)
      have g2 := h3 2 (by omega)
      have g3 := h3 3 (by omega)
      rw [Nat.add_zero] at g0
      omega
    · rw [h, hvL_5]
      have g0 := h3 0 (by omega)
      have g1 := h3 1 (by omega)
      have g2 := h3 2 (by omega)
      have g3 := h3 3 (by omega)
      have g4 := h3 4 (by omega)
      rw [Nat.add_zero] at g0
      omega
theorem hv_3 {n s e : Nat} {b : Nat → Nat} (hz : tkZ n b s = e) (hs : s ≤ e) (hen : e ≤ n) : hvP n b s e = 267347 ↔ spl b s e 3 = true := by
  rw [spl_3, Nat.add_zero]
  rcases hv_cases hz hs hen with h | h | ⟨h1, h2, h3, h4⟩
  · omega
  · omega
  · rw [h4]
    rcases (show e - s = 1 ∨ e - s = 2 ∨ e - s = 3 ∨ e - s = 4 ∨ e - s = 5 by omega) with h | h | h | h | h
    · rw [h, hvL_1]
      have g0 := h3 0 (by omega)
      rw [Nat.add_zero] at g0
      omega
    · rw [h, hvL_2]
      have g0 := h3 0 (by omega)
      have g1 := h3 1 (by omega)
      rw [Nat.add_zero] at g0
      omega
    · rw [h, hvL_3]
      have g0 := h3 0 (by omega)
      have g1 := h3 1 (by omega)
      have g2 := h3 2 (by omega)
      rw [Nat.add_zero] at g0
      omega
    · rw [h, hvL_4]
      have g0 := h3 0 (by omega)
      have g1 := h3 1 (by omega)
      have g2 := h3 2 (by omega)
      have g3 := h3 3 (by omega)
      rw [Nat.add_zero] at g0
      omega
    · rw [h, hvL_5]
      have g0 := h3 0 (by omega)
      have g1 := h3 1 (by omega)
      have g2 := h3 2 (by omega)
      have g3 := h3 3 (by omega)
      have g4 := h3 4 (by omega)
      rw [Nat.add_zero] at g0
      omega
theorem hv_4 {n s e : Nat} {b : Nat → Nat} (hz : tkZ n b s = e) (hs : s ≤ e) (hen : e ≤ n) : hvP n b s e = 6476969 ↔ spl b s e 4 = true := by
  rw [spl_4, Nat.add_zero]
  rcases hv_cases hz hs hen with h | h | ⟨h1, h2, h3, h4⟩
  · omega
  · omega
  · rw [h4]
    rcases (show e - s = 1 ∨ e - s = 2 ∨ e - s = 3 ∨ e - s = 4 ∨ e - s = 5 by omega) with h | h | h | h | h
    · rw [h, hvL_1]
      have g0 := h3 0 (by omega)
      rw [Nat.add_zero] at g0
      omega
    · rw [h, hvL_2]
      have g0 := h3 0 (by omega)
      have g1 := h3 1 (by omega)
      rw [Nat.add_zero] at g0
      omega
    · rw [h, hvL_3]
      have g0 := h3 0 (by omega)
      have g1 := h3 1 (by omega)
      have g2 := h3 2 (by omega)
      rw [Nat.add_zero] at g0
      omega
    · rw [h, hvL_4]
      have g0 := h3 0 (by omega)
      have g1 := h3 1 (by omega)
      have g2 := h3 2 (by omega)
      have g3 := h3 3 (by omega)
      rw [Nat.add_zero] at g0
      omega
    · rw [h, hvL_5]
      have g0 := h3 0 (by omega)
      have g1 := h3 1 (by omega)
      have g2 := h3 2 (by omega)
      have g3 := h3 3 (by omega)
      have g4 := h3 4 (by omega)
      rw [Nat.add_zero] at g0
      omega
theorem hv_5 {n s e : Nat} {b : Nat → Nat} (hz : tkZ n b s = e) (hs : s ≤ e) (hen : e ≤ n) : hvP n b s e = 79 ↔ spl b s e 5 = true := by
  rw [spl_5, Nat.add_zero]
  rcases hv_cases hz hs hen with h | h | ⟨h1, h2, h3, h4⟩
  · omega
  · omega
  · rw [h4]
    rcases (show e - s = 1 ∨ e - s = 2 ∨ e - s = 3 ∨ e - s = 4 ∨ e - s = 5 by omega) with h | h | h | h | h
    · rw [h, hvL_1]
      have g0 := h3 0 (by omega)
      rw [Nat.add_zero] at g0
      omega
    · rw [h, hvL_2]
      have g0 := h3 0 (by omega)
      have g1 := h3 1 (by omega)
      rw [Nat.add_zero] at g0
      omega
    · rw [h, hvL_3]
      have g0 := h3 0 (by omega)
      have g1 := h3 1 (by omega)
      have g2 := h3 2 (by omega)
      rw [Nat.add_zero] at g0
      omega
    · rw [h, hvL_4]
      have g0 := h3 0 (by omega)
      have g1 := h3 1 (by omega)
      have g2 := h3 2 (by omega)
      have g3 := h3 3 (by omega)
      rw [Nat.add_zero] at g0
      omega
    · rw [h, hvL_5]
      have g0 := h3 0 (by omega)
      have g1 := h3 1 (by omega)
      have g2 := h3 2 (by omega)
      have g3 := h3 3 (by omega)
      have g4 := h3 4 (by omega)
      rw [Nat.add_zero] at g0
      omega
theorem hv_6 {n s e : Nat} {b : Nat → Nat} (hz : tkZ n b s = e) (hs : s ≤ e) (hen : e ≤ n) : hvP n b s e = 262 ↔ spl b s e 6 = true := by
  rw [spl_6, Nat.add_zero]
  rcases hv_cases hz hs hen with h | h | ⟨h1, h2, h3, h4⟩
  · omega
  · omega
  · rw [h4]
    rcases (show e - s = 1 ∨ e - s = 2 ∨ e - s = 3 ∨ e - s = 4 ∨ e - s = 5 by omega) with h | h | h | h | h
    · rw [h, hvL_1]
      have g0 := h3 0 (by omega)
      rw [Nat.add_zero] at g0
      omega
    · rw [h, hvL_2]
      have g0 := h3 0 (by omega)
      have g1 := h3 1 (by omega)
      rw [Nat.add_zero] at g0
      omega
    · rw [h, hvL_3]
      have g0 := h3 0 (by omega)
      have g1 := h3 1 (by omega)
      have g2 := h3 2 (by omega)
      rw [Nat.add_zero] at g0
      omega
    · rw [h, hvL_4]
      have g0 := h3 0 (by omega)
      have g1 := h3 1 (by omega)
      have g2 := h3 2 (by omega)
      have g3 := h3 3 (by omega)
      rw [Nat.add_zero] at g0
      omega
    · rw [h, hvL_5]
      have g0 := h3 0 (by omega)
      have g1 := h3 1 (by omega)
      have g2 := h3 2 (by omega)
      have g3 := h3 3 (by omega)
      have g4 := h3 4 (by omega)
      rw [Nat.add_zero] at g0
      omega
theorem hv_7 {n s e : Nat} {b : Nat → Nat} (hz : tkZ n b s = e) (hs : s ≤ e) (hen : e ≤ n) : hvP n b s e = 1111 ↔ spl b s e 7 = true := by
  rw [spl_7, Nat.add_zero]
  rcases hv_cases hz hs hen with h | h | ⟨h1, h2, h3, h4⟩
  · omega
  · omega
  · rw [h4]
    rcases (show e - s = 1 ∨ e - s = 2 ∨ e - s = 3 ∨ e - s = 4 ∨ e - s = 5 by omega) with h | h | h | h | h
    · rw [h, hvL_1]
      have g0 := h3 0 (by omega)
      rw [Nat.add_zero] at g0
      omega
    · rw [h, hvL_2]
      have g0 := h3 0 (by omega)
      have g1 := h3 1 (by omega)
      rw [Nat.add_zero] at g0
      omega
    · rw [h, hvL_3]
      have g0 := h3 0 (by omega)
      have g1 := h3 1 (by omega)
      have g2 := h3 2 (by omega)
      rw [Nat.add_zero] at g0
      omega
    · rw [h, hvL_4]
      have g0 := h3 0 (by omega)
      have g1 := h3 1 (by omega)
      have g2 := h3 2 (by omega)
      have g3 := h3 3 (by omega)
      rw [Nat.add_zero] at g0
      omega
    · rw [h, hvL_5]
      have g0 := h3 0 (by omega)
      have g1 := h3 1 (by omega)
      have g2 := h3 2 (by omega)
      have g3 := h3 3 (by omega)
      have g4 := h3 4 (by omega)
      rw [Nat.add_zero] at g0
      omega
theorem hv_8 {n s e : Nat} {b : Nat → Nat} (hz : tkZ n b s = e) (hs : s ≤ e) (hen : e ≤ n) : hvP n b s e = 423 ↔ spl b s e 8 = true := by
  rw [spl_8, Nat.add_zero]
  rcases hv_cases hz hs hen with h | h | ⟨h1, h2, h3, h4⟩
  · omega
  · omega
  · rw [h4]
    rcases (show e - s = 1 ∨ e - s = 2 ∨ e - s = 3 ∨ e - s = 4 ∨ e - s = 5 by omega) with h | h | h | h | h
    · rw [h, hvL_1]
      have g0 := h3 0 (by omega)
      rw [Nat.add_zero] at g0
      omega
    · rw [h, hvL_2]
      have g0 := h3 0 (by omega)
      have g1 := h3 1 (by omega)
      rw [Nat.add_zero] at g0
      omega
    · rw [h, hvL_3]
      have g0 := h3 0 (by omega)
      have g1 := h3 1 (by omega)
      have g2 := h3 2 (by omega)
      rw [Nat.add_zero] at g0
      omega
    · rw [h, hvL_4]
      have g0 := h3 0 (by omega)
      have g1 := h3 1 (by omega)
      have g2 := h3 2 (by omega)
      have g3 := h3 3 (by omega)
      rw [Nat.add_zero] at g0
      omega
    · rw [h, hvL_5]
      have g0 := h3 0 (by omega)
      have g1 := h3 1 (by omega)
      have g2 := h3 2 (by omega)
      have g3 := h3 3 (by omega)
      have g4 := h3 4 (by omega)
      rw [Nat.add_zero] at g0
      omega
theorem sgn_2 {n s e : Nat} {b : Nat → Nat} (hz : tkZ n b s = e) (hs : s ≤ e) (hen : e ≤ n) : (s < n ∧ (40 : Int) ≤ (b s : Int) ∧ (b s : Int) ≤ 40) ↔ spl b s e 2 = true := by
  rw [spl_2, Nat.add_zero]
  constructor
  · intro h
    refine ⟨?_, by omega⟩
    rw [← hz]
    unfold tkZ
    rw [if_neg (mt srt_0.mp (by omega)), tkE_other (fun z => by have := srt_1.mp z; omega) (fun z => by have := srt_2.mp z; omega)]
    omega
  · intro h; omega
theorem sgn_9 {n s e : Nat} {b : Nat → Nat} (hz : tkZ n b s = e) (hs : s ≤ e) (hen : e ≤ n) : (s < n ∧ (41 : Int) ≤ (b s : Int) ∧ (b s : Int) ≤ 41) ↔ spl b s e 9 = true := by
  rw [spl_9, Nat.add_zero]
  constructor
  · intro h
    refine ⟨?_, by omega⟩
    rw [← hz]
    unfold tkZ
    rw [if_neg (mt srt_0.mp (by omega)), tkE_other (fun z => by have := srt_1.mp z; omega) (fun z => by have := srt_2.mp z; omega)]
    omega
  · intro h; omega
set_option maxRecDepth 4000 in
theorem sp_X11_here {n : Nat} {b : Nat → Nat} (hB : atB I n b) {s e : Nat} (hs : s ≤ e) (hen : e ≤ n) (hz : tkZ n b s = e) (h22 : I 191 22 = iZ (s : Int)) (h23 : I 191 23 = iZ (e : Int)) : am_S G mX11_here 3 0 0 [.ref 191] (215, kK, kR, I, J) (am_fi (iZ (hvP n b s e)) (215, kK, kR, I, J)) := by
  have hn := hB.2.1
  refine am_spec (plainFor_of_name (by decide +kernel)) (Nat.le_of_ble_eq_true rfl) (L := [some (.ref 191), none, none]) rfl (fun X C T => ?_)
  have lp : ∀ (fuel : Nat) (k : Nat) (v : Int), (s ≤ k ∧ k ≤ e) → (srt n b s ≠ 1 ∧ k = s ∧ v = 0 ∨ srt n b s = 1 ∧ 5 < e - s ∧ (s < k → v = -1) ∨ srt n b s = 1 ∧ e - s ≤ 5 ∧ hvL b (e - k) k v = hvL b (e - s) s 0) → (e - k) < fuel → am_A G mX11_here X (am_rm 3 0 0) 7 [some (.ref 191), some (.int (iZ v)), some (.int (iZ (k : Int)))] [] (215, kK, kR, I, J) 0 0 := by
    intro fuel
    induction fuel with
    | zero => intro k v hk hI hf; exact absurd hf (Nat.not_lt_zero _)
    | succ fuel ih =>
      intro k v hk hI hf
      refine am_iload_n (q := 8) C dX11_here_7 rfl rfl ?_
      refine am_aload_n (q := 9) C dX11_here_8 rfl rfl ?_
      refine am_getIe (q := 12) (v := (iZ (e : Int))) C fb_X11_122 dX11_here_9 rfl rfl kk_191 (show 191 < 215 by decide) h23 ?_
      refine am_icmpZ_ge (q := 15) (tgt := 65) C dX11_here_12 (by decide) rfl ⟨by omega, by omega⟩ ⟨by omega, by omega⟩ (fun c1 => ?_) (fun c1 => ?_)
      · refine am_iload_n (q := 66) C dX11_here_65 rfl rfl ?_
        refine am_iret C T dX11_here_66 rfl (Nat.le_refl _) (Nat.le_refl _) ⟨_, rfl, ?_⟩
        refine ⟨congrArg iZ ?_, rfl⟩
        rcases hI with ⟨i1, i2, i3⟩ | ⟨i1, i2, i3⟩ | ⟨i1, i2, i3⟩
        · unfold hvP; rw [if_neg i1]; exact i3
        · by_cases hk9 : k < e
          · have i5 := srt_1.mp ((tk_srt (n := n) (b := b) (s := s) (j := k) (by omega) (by omega)).trans i1)
            exfalso; omega
          · unfold hvP; rw [if_pos i1, if_pos i2]; exact i3 (by omega)
        · by_cases hk9 : k < e
          · have i5 := srt_1.mp ((tk_srt (n := n) (b := b) (s := s) (j := k) (by omega) (by omega)).trans i1)
            exfalso; omega
          · unfold hvP; rw [if_pos i1, if_neg (by omega), ← i3, show e - k = 0 by omega]; rfl
      · refine am_aload_n (q := 16) C dX11_here_15 rfl rfl ?_
        refine am_iload_n (q := 17) C dX11_here_16 rfl rfl ?_
        refine am_bipush (q := 19) (v := iZ 97) C dX11_here_17 rfl rfl ?_
        refine am_bipush (q := 21) (v := iZ 122) C dX11_here_19 rfl rfl ?_
        refine am_callV (q := 24) (As := [.int (iZ (k : Int)), .int (iZ 97), .int (iZ 122)]) (rest := []) C mb_X11_isAt im_X11_isAt se_X11_isAt ml_X11_128 cb_11 kk_191 (show 191 < 215 by decide) dX11_here_21 rfl (sp_X11_isAt hB (k := k) (by omega) (lo := 97) (hi := 122) ⟨by omega, by omega⟩ ⟨by omega, by omega⟩) rfl rfl ⟨by decide, by decide⟩ ⟨Nat.le_refl _, Nat.le_refl _⟩ (Nat.le_of_ble_eq_true rfl) (am_rie ?_)
        refine am_ifB_eq (q := 27) (tgt := 65) C dX11_here_24 (by decide) rfl (fun c2 => ?_) (fun c2 => ?_)
        · refine am_iload_n (q := 66) C dX11_here_65 rfl rfl ?_
          refine am_iret C T dX11_here_66 rfl (Nat.le_refl _) (Nat.le_refl _) ⟨_, rfl, ?_⟩
          refine ⟨congrArg iZ ?_, rfl⟩
          rcases hI with ⟨i1, i2, i3⟩ | ⟨i1, i2, i3⟩ | ⟨i1, i2, i3⟩
          · unfold hvP; rw [if_neg i1]; exact i3
          · by_cases hk9 : k < e
            · have i5 := srt_1.mp ((tk_srt (n := n) (b := b) (s := s) (j := k) (by omega) (by omega)).trans i1)
              exfalso; omega
            · unfold hvP; rw [if_pos i1, if_pos i2]; exact i3 (by omega)
          · by_cases hk9 : k < e
            · have i5 := srt_1.mp ((tk_srt (n := n) (b := b) (s := s) (j := k) (by omega) (by omega)).trans i1)
              exfalso; omega
            · unfold hvP; rw [if_pos i1, if_neg (by omega), ← i3, show e - k = 0 by omega]; rfl
        · refine am_aload_n (q := 28) C dX11_here_27 rfl rfl ?_
          refine am_getIe (q := 31) (v := (iZ (e : Int))) C fb_X11_122 dX11_here_28 rfl rfl kk_191 (show 191 < 215 by decide) h23 ?_
          refine am_aload_n (q := 32) C dX11_here_31 rfl rfl ?_
          refine am_getIe (q := 35) (v := (iZ (s : Int))) C fb_X11_125 dX11_here_32 rfl rfl kk_191 (show 191 < 215 by decide) h22 ?_
          refine am_isubZ (q := 36) C dX11_here_35 rfl ?_
          refine am_iconst (q := 37) (v := iZ 5) C dX11_here_36 rfl rfl ?_
          refine am_icmpZ_le (q := 40) (tgt := 44) C dX11_here_37 (by decide) rfl ⟨by omega, by omega⟩ ⟨by omega, by omega⟩ (fun c3 => ?_) (fun c3 => ?_)
          · refine am_bipush (q := 46) (v := iZ 27) C dX11_here_44 rfl rfl ?_
            refine am_iload_n (q := 47) C dX11_here_46 rfl rfl ?_
            refine am_imulZ (q := 48) C dX11_here_47 rfl ?_
            refine am_aload_n (q := 49) C dX11_here_48 rfl rfl ?_
            refine am_getR (q := 52) C fb_X11_59 dX11_here_49 rfl rfl kk_191 (show 191 < 215 by decide) kr_191_20 ?_
            refine am_iload_n (q := 53) C dX11_here_52 rfl rfl ?_
            refine am_ialoadZ (q := 54) k C dX11_here_53 rfl kk_206 (show 206 < 215 by decide) rfl (by omega) (by decide) ?_
            refine am_intE (y := (iZ (b k : Int))) (hB.2.2 k (by omega)).1 ?_
            refine am_iaddZ (q := 55) C dX11_here_54 rfl ?_
            refine am_bipush (q := 57) (v := iZ 96) C dX11_here_55 rfl rfl ?_
            refine am_isubZ (q := 58) C dX11_here_57 rfl ?_
            refine am_istore_n (q := 59) (L' := [some (.ref 191), some (.int (iZ (27 * v + (b k : Int) - 96))), some (.int (iZ (k : Int)))]) C dX11_here_58 rfl (by decide) rfl rfl ?_
            refine am_iincZ (q := 62) (L' := [some (.ref 191), some (.int (iZ (27 * v + (b k : Int) - 96))), some (.int (iZ ((k + 1 : Nat) : Int)))]) C dX11_here_59 rfl rfl (by omega) (by decide) rfl rfl ?_
            refine am_goto (q := 7) C dX11_here_62 (by decide) ?_
            have hk1 : srt n b k = 1 := srt_1.mpr ⟨by omega, by omega, by omega⟩
            have hk2 : srt n b s = 1 := (tk_srt (n := n) (b := b) (s := s) (j := k) (by omega) (by omega)).symm.trans hk1
            refine ih (k + 1) (27 * v + (b k : Int) - 96) ⟨by omega, by omega⟩ ?_ (by omega)
            rcases hI with ⟨i1, i2, i3⟩ | ⟨i1, i2, i3⟩ | ⟨i1, i2, i3⟩
            · exact absurd hk2 i1
            · omega
            · refine Or.inr (Or.inr ⟨hk2, i2, ?_⟩)
              rw [← i3]
              obtain ⟨r, hr⟩ : ∃ r, e - k = r + 1 := ⟨e - k - 1, by omega⟩
              rw [hr, show e - (k + 1) = r by omega]
              rfl
          · refine am_iconst (q := 41) (v := iZ (-1)) C dX11_here_40 rfl rfl ?_
            refine am_goto (q := 58) C dX11_here_41 (by decide) ?_
            refine am_istore_n (q := 59) (L' := [some (.ref 191), some (.int (iZ (-1))), some (.int (iZ (k : Int)))]) C dX11_here_58 rfl (by decide) rfl rfl ?_
            refine am_iincZ (q := 62) (L' := [some (.ref 191), some (.int (iZ (-1))), some (.int (iZ ((k + 1 : Nat) : Int)))]) C dX11_here_59 rfl rfl (by omega) (by decide) rfl rfl ?_
            refine am_goto (q := 7) C dX11_here_62 (by decide) ?_
            have hk1 : srt n b k = 1 := srt_1.mpr ⟨by omega, by omega, by omega⟩
            have hk2 : srt n b s = 1 := (tk_srt (n := n) (b := b) (s := s) (j := k) (by omega) (by omega)).symm.trans hk1
            refine ih (k + 1) ((-1)) ⟨by omega, by omega⟩ ?_ (by omega)
            exact Or.inr (Or.inl ⟨hk2, by omega, fun _ => rfl⟩)
  refine am_iconst (q := 1) (v := iZ 0) C dX11_here_0 rfl rfl ?_
  refine am_istore_n (q := 2) (L' := [some (.ref 191), some (.int (iZ 0)), none]) C dX11_here_1 rfl (by decide) rfl rfl ?_
  refine am_aload_n (q := 3) C dX11_here_2 rfl rfl ?_
  refine am_getIe (q := 6) (v := (iZ (s : Int))) C fb_X11_125 dX11_here_3 rfl rfl kk_191 (show 191 < 215 by decide) h22 ?_
  refine am_istore_n (q := 7) (L' := [some (.ref 191), some (.int (iZ 0)), some (.int (iZ (s : Int)))]) C dX11_here_6 rfl (by decide) rfl rfl ?_
  refine lp (e - s + 1) s 0 ⟨by omega, hs⟩ ?_ (by omega)
  by_cases h1 : srt n b s = 1
  · by_cases h2 : 5 < e - s
    · exact Or.inr (Or.inl ⟨h1, h2, fun z => by omega⟩)
    · exact Or.inr (Or.inr ⟨h1, by omega, rfl⟩)
  · exact Or.inl ⟨h1, rfl, rfl⟩
set_option maxRecDepth 4000 in
theorem sp_X11_takes {n : Nat} {b : Nat → Nat} {s : Nat} (hP : psM I n b s false) {i : Nat} {wv : Int} (hwr : rg wv) (hw : hvP n b s (tkZ n b s) = wv ↔ spl b s (tkZ n b s) i = true) : am_S G mX11_takes 4 0 0 [.ref 191, .int (iZ wv)] (215, kK, kR, I, J) (am_qi (fun v w' => v = (if spl b s (tkZ n b s) i = true then 1 else 0) ∧ ∃ I' : Nat → Nat → Int32, w' = (215, kK, kR, I', J) ∧ frP I I' ∧ psM I' n b (if spl b s (tkZ n b s) i = true then nxP n b s else s) false)) := by
  obtain ⟨hB, hsn, h22, h23, h24⟩ := hP
  have hn := hB.2.1
  have hz := tkZ_le (b := b) hsn
  have hr := hv_rg (b := b) (s := s) rfl hz.1 hz.2
  refine am_spec (plainFor_of_name (by decide +kernel)) (Nat.le_of_ble_eq_true rfl) (L := [some (.ref 191), some (.int (iZ wv))]) rfl (fun X C T => ?_)
  refine am_aload_n (q := 1) C dX11_takes_0 rfl rfl ?_
  refine am_getIe (q := 4) (v := (iZ 0)) C fb_X11_131 dX11_takes_1 rfl rfl kk_191 (show 191 < 215 by decide) (h24.trans rfl) ?_
  refine am_ifZ_ne (q := 7) (tgt := 15) C dX11_takes_4 (by decide) rfl ⟨by omega, by omega⟩ (fun c1 => ?_) (fun c1 => ?_)
  · exact absurd c1 (by decide)
  · refine am_aload_n (q := 8) C dX11_takes_7 rfl rfl ?_
    refine am_callV (q := 11) (As := []) (rest := []) C mb_X11_here im_X11_here se_X11_here ml_X11_135 cb_11 kk_191 (show 191 < 215 by decide) dX11_takes_8 rfl (sp_X11_here hB hz.1 hz.2 rfl h22 h23) rfl rfl ⟨by decide, by decide⟩ ⟨Nat.le_refl _, Nat.le_refl _⟩ (Nat.le_of_ble_eq_true rfl) (am_rie ?_)
    refine am_iload_n (q := 12) C dX11_takes_11 rfl rfl ?_
    refine am_icmpZ_eq (q := 15) (tgt := 17) C dX11_takes_12 (by decide) rfl ⟨by omega, by omega⟩ hwr (fun c2 => ?_) (fun c2 => ?_)
    · refine am_aload_n (q := 18) C dX11_takes_17 rfl rfl ?_
      refine am_callV (q := 21) (As := []) (rest := []) C mb_X11_next im_X11_next se_X11_next ml_X11_139 cb_11 kk_191 (show 191 < 215 by decide) dX11_takes_18 rfl (sp_X11_next hB hz.2 h23) rfl rfl ⟨by decide, by decide⟩ ⟨Nat.le_refl _, Nat.le_refl _⟩ (Nat.le_of_ble_eq_true rfl) (am_rv (fun w' hw' => ?_))
      obtain ⟨I1, rfl, n1, n2, n3⟩ := hw'
      refine am_iconst (q := 22) (v := iZ 1) C dX11_takes_21 rfl rfl ?_
      refine am_zretB (b := true) C T dX11_takes_22 rfl (Nat.le_refl _) (Nat.le_refl _) rfl ⟨_, rfl, ?_⟩
      have hf : spl b s (tkZ n b s) i = true := hw.mp (by omega)
      rw [if_pos hf, if_pos hf]
      exact ⟨rfl, _, rfl, n3.P, n3.P.B hB, (nxP_le hsn).2, n1, n2, (n3.1 24 (by decide) (by decide)).trans h24⟩
    · refine am_iconst (q := 16) (v := iZ 0) C dX11_takes_15 rfl rfl ?_
      refine am_zretB (b := false) C T dX11_takes_16 rfl (Nat.le_refl _) (Nat.le_refl _) rfl ⟨_, rfl, ?_⟩
      have hf : ¬ spl b s (tkZ n b s) i = true := fun z => by have := hw.mpr z; omega
      rw [if_neg hf, if_neg hf]
      exact ⟨rfl, _, rfl, frP_refl, hB, hsn, h22, h23, h24⟩
set_option maxRecDepth 4000 in
theorem spW_X11_takes {n : Nat} {b : Nat → Nat} {s : Nat} (hP : psM I n b s true) {wv : Int} : am_S G mX11_takes 4 0 0 [.ref 191, .int (iZ wv)] (215, kK, kR, I, J) (am_fi (iZ 0) (215, kK, kR, I, J)) := by
  obtain ⟨hB, hsn, h22, h23, h24⟩ := hP
  refine am_spec (plainFor_of_name (by decide +kernel)) (Nat.le_of_ble_eq_true rfl) (L := [some (.ref 191), some (.int (iZ wv))]) rfl (fun X C T => ?_)
  refine am_aload_n (q := 1) C dX11_takes_0 rfl rfl ?_
  refine am_getIe (q := 4) (v := (iZ 1)) C fb_X11_131 dX11_takes_1 rfl rfl kk_191 (show 191 < 215 by decide) (h24.trans rfl) ?_
  refine am_ifZ_ne (q := 7) (tgt := 15) C dX11_takes_4 (by decide) rfl ⟨by omega, by omega⟩ (fun c1 => ?_) (fun c1 => ?_)
  · refine am_iconst (q := 16) (v := iZ 0) C dX11_takes_15 rfl rfl ?_
    refine am_zretB (b := false) C T dX11_takes_16 rfl (Nat.le_refl _) (Nat.le_refl _) rfl ⟨_, rfl, ?_⟩
    exact ⟨rfl, rfl⟩
  · exact absurd c1 (by decide)
set_option maxRecDepth 4000 in
theorem sp_X11_takesSign {n : Nat} {b : Nat → Nat} {s : Nat} (hP : psM I n b s false) {i : Nat} {wv : Int} (hwr : rg wv) (hw : (s < n ∧ wv ≤ (b s : Int) ∧ (b s : Int) ≤ wv) ↔ spl b s (tkZ n b s) i = true) : am_S G mX11_takesSign 4 0 0 [.ref 191, .int (iZ wv)] (215, kK, kR, I, J) (am_qi (fun v w' => v = (if spl b s (tkZ n b s) i = true then 1 else 0) ∧ ∃ I' : Nat → Nat → Int32, w' = (215, kK, kR, I', J) ∧ frP I I' ∧ psM I' n b (if spl b s (tkZ n b s) i = true then nxP n b s else s) false)) := by
  obtain ⟨hB, hsn, h22, h23, h24⟩ := hP
  have hn := hB.2.1
  have hz := tkZ_le (b := b) hsn
  refine am_spec (plainFor_of_name (by decide +kernel)) (Nat.le_of_ble_eq_true rfl) (L := [some (.ref 191), some (.int (iZ wv))]) rfl (fun X C T => ?_)
  refine am_aload_n (q := 1) C dX11_takesSign_0 rfl rfl ?_
  refine am_getIe (q := 4) (v := (iZ 0)) C fb_X11_131 dX11_takesSign_1 rfl rfl kk_191 (show 191 < 215 by decide) (h24.trans rfl) ?_
  refine am_ifZ_ne (q := 7) (tgt := 20) C dX11_takesSign_4 (by decide) rfl ⟨by omega, by omega⟩ (fun c1 => ?_) (fun c1 => ?_)
  · exact absurd c1 (by decide)
  · refine am_aload_n (q := 8) C dX11_takesSign_7 rfl rfl ?_
    refine am_aload_n (q := 9) C dX11_takesSign_8 rfl rfl ?_
    refine am_getIe (q := 12) (v := (iZ (s : Int))) C fb_X11_125 dX11_takesSign_9 rfl rfl kk_191 (show 191 < 215 by decide) h22 ?_
    refine am_iload_n (q := 13) C dX11_takesSign_12 rfl rfl ?_
    refine am_iload_n (q := 14) C dX11_takesSign_13 rfl rfl ?_
    refine am_callV (q := 17) (As := [.int (iZ (s : Int)), .int (iZ wv), .int (iZ wv)]) (rest := []) C mb_X11_isAt im_X11_isAt se_X11_isAt ml_X11_128 cb_11 kk_191 (show 191 < 215 by decide) dX11_takesSign_14 rfl (sp_X11_isAt hB (k := s) (by omega) (lo := wv) (hi := wv) hwr hwr) rfl rfl ⟨by decide, by decide⟩ ⟨Nat.le_refl _, Nat.le_refl _⟩ (Nat.le_of_ble_eq_true rfl) (am_rie ?_)
    refine am_ifB_ne (q := 20) (tgt := 22) C dX11_takesSign_17 (by decide) rfl (fun c2 => ?_) (fun c2 => ?_)
    · refine am_aload_n (q := 23) C dX11_takesSign_22 rfl rfl ?_
      refine am_callV (q := 26) (As := []) (rest := []) C mb_X11_next im_X11_next se_X11_next ml_X11_139 cb_11 kk_191 (show 191 < 215 by decide) dX11_takesSign_23 rfl (sp_X11_next hB hz.2 h23) rfl rfl ⟨by decide, by decide⟩ ⟨Nat.le_refl _, Nat.le_refl _⟩ (Nat.le_of_ble_eq_true rfl) (am_rv (fun w' hw' => ?_))
      obtain ⟨I1, rfl, n1, n2, n3⟩ := hw'
      refine am_iconst (q := 27) (v := iZ 1) C dX11_takesSign_26 rfl rfl ?_
      refine am_zretB (b := true) C T dX11_takesSign_27 rfl (Nat.le_refl _) (Nat.le_refl _) rfl ⟨_, rfl, ?_⟩
      have hf : spl b s (tkZ n b s) i = true := hw.mp (by omega)
      rw [if_pos hf, if_pos hf]
      exact ⟨rfl, _, rfl, n3.P, n3.P.B hB, (nxP_le hsn).2, n1, n2, (n3.1 24 (by decide) (by decide)).trans h24⟩
    · refine am_iconst (q := 21) (v := iZ 0) C dX11_takesSign_20 rfl rfl ?_
      refine am_zretB (b := false) C T dX11_takesSign_21 rfl (Nat.le_refl _) (Nat.le_refl _) rfl ⟨_, rfl, ?_⟩
      have hf : ¬ spl b s (tkZ n b s) i = true := fun z => by have := hw.mpr z; omega
      rw [if_neg hf, if_neg hf]
      exact ⟨rfl, _, rfl, frP_refl, hB, hsn, h22, h23, h24⟩
set_option maxRecDepth 4000 in
theorem spW_X11_takesSign {n : Nat} {b : Nat → Nat} {s : Nat} (hP : psM I n b s true) {wv : Int} : am_S G mX11_takesSign 4 0 0 [.ref 191, .int (iZ wv)] (215, kK, kR, I, J) (am_fi (iZ 0) (215, kK, kR, I, J)) := by
  obtain ⟨hB, hsn, h22, h23, h24⟩ := hP
  refine am_spec (plainFor_of_name (by decide +kernel)) (Nat.le_of_ble_eq_true rfl) (L := [some (.ref 191), some (.int (iZ wv))]) rfl (fun X C T => ?_)
  refine am_aload_n (q := 1) C dX11_takesSign_0 rfl rfl ?_
  refine am_getIe (q := 4) (v := (iZ 1)) C fb_X11_131 dX11_takesSign_1 rfl rfl kk_191 (show 191 < 215 by decide) (h24.trans rfl) ?_
  refine am_ifZ_ne (q := 7) (tgt := 20) C dX11_takesSign_4 (by decide) rfl ⟨by omega, by omega⟩ (fun c1 => ?_) (fun c1 => ?_)
  · refine am_iconst (q := 21) (v := iZ 0) C dX11_takesSign_20 rfl rfl ?_
    refine am_zretB (b := false) C T dX11_takesSign_21 rfl (Nat.le_refl _) (Nat.le_refl _) rfl ⟨_, rfl, ?_⟩
    exact ⟨rfl, rfl⟩
  · exact absurd c1 (by decide)
