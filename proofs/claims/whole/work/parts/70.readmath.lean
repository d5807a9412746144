theorem tkS_same {n : Nat} {b : Nat → Nat} {p : Nat} (h : srt n b p ≠ 4) : ∀ k, tkS n b k p = p
  | 0 => rfl
  | k + 1 => by show (if _ then _ else _) = p; rw [if_neg (fun z => h z.2)]
theorem tkA_tkA {n e : Nat} {b : Nat → Nat} (he : e ≤ n) : tkA n b (tkA n b e) = tkA n b e := tkS_same (tkS_st (n - e) e (by omega)) _
theorem nxP_tk {n s : Nat} {b : Nat → Nat} (hs : s ≤ n) : tkA n b (nxP n b s) = nxP n b s := tkA_tkA (tkZ_le (b := b) hs).2
abbrev rT (n : Nat) (b : Nat → Nat) (s : Nat) (r : RS) : Bool × RS := rTk (spl b s (tkZ n b s)) (srt n b s) (tkN b s (tkZ n b s)) r
theorem rGo_succ (n : Nat) (b : Nat → Nat) (k e : Nat) (r : RS) : rGo n b (k + 1) e r = if srt n b (tkA n b e) = 0 then (if r.2.2.2.2.1 = 2 ∧ r.1 = 0 then (-1, rSo r) else ((tkA n b e : Int), 0)) else if (rT n b (tkA n b e) r).1 then rGo n b k (tkZ n b (tkA n b e)) (rT n b (tkA n b e) r).2 else ((tkA n b e : Int), 0) := rfl
theorem rGo_fuel {n : Nat} {b : Nat → Nat} : ∀ k k' e r, e ≤ n → n - e < k → n - e < k' → rGo n b k e r = rGo n b k' e r
  | 0, _, e, r, h, h1, _ => by omega
  | _ + 1, 0, e, r, h, _, h2 => by omega
  | k + 1, k' + 1, e, r, h, h1, h2 => by
    rw [rGo_succ, rGo_succ]
    by_cases e1 : srt n b (tkA n b e) = 0
    · rw [if_pos e1, if_pos e1]
    · rw [if_neg e1, if_neg e1]
      have g1 := tkA_le (b := b) h
      have g2 := tkZ_gt e1
      have g3 := tkZ_le (b := b) g1.2
      rw [rGo_fuel k k' _ _ g3.2 (by omega) (by omega)]
def Pg (n : Nat) (b : Nat → Nat) (s : Nat) (r : RS) : Int × Nat := rGo n b (n + 1 - s) s r
theorem Pg_go {n e k : Nat} {b : Nat → Nat} {r : RS} (he : e ≤ n) (hk : n - e < k) : rGo n b k e r = Pg n b (tkA n b e) r := by
  have g1 := tkA_le (b := b) he
  unfold Pg
  obtain ⟨q, rfl⟩ : ∃ q, k = q + 1 := ⟨k - 1, by omega⟩
  rw [rGo_fuel (n + 1 - tkA n b e) (q + 1) _ _ g1.2 (by omega) (by omega), rGo_succ, rGo_succ, tkA_tkA he]
theorem Pg_on {n s : Nat} {b : Nat → Nat} {r r' : RS} (hA : tkA n b s = s) (hs : s < n) (h : rT n b s r = (true, r')) : Pg n b s r = Pg n b (nxP n b s) r' := by
  have h0 : srt n b s ≠ 0 := mt srt_0.mp (by omega)
  have g2 := tkZ_gt h0
  have g3 := tkZ_le (b := b) (show s ≤ n by omega)
  show rGo n b (n + 1 - s) s r = _
  rw [show n + 1 - s = (n - s) + 1 by omega, rGo_succ, hA, if_neg h0, h]
  show rGo n b (n - s) (tkZ n b s) r' = _
  exact Pg_go g3.2 (by omega)
theorem Pg_no {n s : Nat} {b : Nat → Nat} {r : RS} (hA : tkA n b s = s) (hs : s < n) (h : (rT n b s r).1 = false) : (Pg n b s r).1 = s := by
  have h0 : srt n b s ≠ 0 := mt srt_0.mp (by omega)
  unfold Pg
  rw [show n + 1 - s = (n - s) + 1 by omega, rGo_succ, hA, if_neg h0, h]
  rfl
theorem Pg_bad {n s : Nat} {b : Nat → Nat} {r : RS} (hA : tkA n b s = s) (hs : n ≤ s) (hs2 : s ≤ n) (h : ¬ (r.2.2.2.2.1 = 2 ∧ r.1 = 0)) : (Pg n b s r).1 = s := by
  unfold Pg
  rw [show n + 1 - s = (n - s) + 1 by omega, rGo_succ, hA, if_pos (srt_0.mpr hs), if_neg h]
theorem Pg_end {n s : Nat} {b : Nat → Nat} {r : RS} (hA : tkA n b s = s) (hs : n ≤ s) (hs2 : s ≤ n) (h : r.2.2.2.2.1 = 2 ∧ r.1 = 0) : Pg n b s r = (-1, rSo r) := by
  unfold Pg
  rw [show n + 1 - s = (n - s) + 1 by omega, rGo_succ, hA, if_pos (srt_0.mpr hs), if_pos h]
/-- readers that what is to come can't tell apart -/
def lvE (o : Nat) (r r' : RS) : Prop := ∀ k, k < o → r.2.1 k = r'.2.1 k ∧ r.2.2.1 k = r'.2.2.1 k ∧ r.2.2.2.1 k = r'.2.2.2.1 k
def rEq (r r' : RS) : Prop := r.1 = r'.1 ∧ r.2.2.2.2.1 = r'.2.2.2.2.1 ∧ (r.2.2.2.2.1 = 1 → r.2.2.2.2.2 = r'.2.2.2.2.2) ∧ lvE (r.1 + 1) r r'
theorem rEq_so {r r' : RS} (h : rEq r r') : rSo r = rSo r' := by
  have := h.2.2.2 r.1 (by omega)
  unfold rSo
  rw [← h.1, this.1, this.2.1]
theorem up1_e {α : Type} {f g : Nat → α} {o k : Nat} {v : α} (h : k < o → f k = g k) (hk : k < o + 1) : up1 f o v k = up1 g o v k := by
  unfold up1
  split
  · rfl
  · exact h (by omega)
theorem rEq_beg {r r' : RS} (v : Nat) (h1 : r.1 = r'.1) (h2 : lvE r.1 r r') : rEq (rBeg v r) (rBeg v r') := by
  refine ⟨h1, rfl, fun z => (Nat.zero_ne_one z).elim, fun k hk => ?_⟩
  unfold rBeg
  rw [← h1]
  exact ⟨up1_e (fun z => (h2 k z).1) hk, up1_e (fun z => (h2 k z).2.1) hk, up1_e (fun z => (h2 k z).2.2) hk⟩
theorem rEq_hold {r r' : RS} (s : Nat) (h1 : r.1 = r'.1) (h2 : lvE (r.1 + 1) r r') : rEq (rHold s r) (rHold s r') := by
  refine ⟨h1, rfl, fun z => absurd z (show ¬ (2 : Nat) = 1 by decide), fun k hk => ?_⟩
  have h3 := h2 r.1 (by omega)
  unfold rHold
  rw [← h1]
  dsimp only
  rw [h3.2.1, h3.2.2]
  exact ⟨(h2 k hk).1, up1_e (fun z => (h2 k hk).2.1) hk, up1_e (fun z => (h2 k hk).2.2) hk⟩
theorem rEq_deny {r r' : RS} (h : rEq r r') : rEq (rDeny r) (rDeny r') := by
  obtain ⟨h1, h2, h3, h4⟩ := h
  refine ⟨h1, h2, h3, fun k hk => ?_⟩
  have h5 := h4 r.1 (by omega)
  unfold rDeny
  rw [← h1]
  dsimp only
  rw [h5.2.2]
  exact ⟨(h4 k hk).1, (h4 k hk).2.1, up1_e (fun z => (h4 k hk).2.2) hk⟩
theorem rEq_st {r r' : RS} (a c d : Nat) (h : rEq r r') (hc : a = 1 → c = d) : rEq (rSt a c r) (rSt a d r') := ⟨h.1, rfl, hc, h.2.2.2⟩
theorem rEq_tk {r r' : RS} (h : rEq r r') (wd : Nat → Bool) (c : Nat) (z : Int) : (rTk wd c z r).1 = (rTk wd c z r').1 ∧ rEq (rTk wd c z r).2 (rTk wd c z r').2 := by
  obtain ⟨h1, h2, h3, h4⟩ := h
  have h : rEq r r' := ⟨h1, h2, h3, h4⟩
  unfold rTk
  rw [← h2]
  by_cases e1 : r.2.2.2.2.1 = 1
  · rw [if_pos e1, if_pos e1]
    by_cases e2 : c = 2
    · rw [if_pos e2, if_pos e2]
      unfold rNum
      rw [← h3 e1]
      split
      · exact ⟨rfl, h⟩
      · exact ⟨rfl, rEq_hold _ h1 h4⟩
    · rw [if_neg e2, if_neg e2]; exact ⟨rfl, h⟩
  · rw [if_neg e1, if_neg e1]
    by_cases e2 : c = 2
    · rw [if_pos e2, if_pos e2]; exact ⟨rfl, h⟩
    · rw [if_neg e2, if_neg e2]
      by_cases e3 : r.2.2.2.2.1 = 0
      · rw [if_pos e3, if_pos e3]
        unfold rBegn rTest
        rw [← h1]
        split
        · exact ⟨rfl, rEq_deny h⟩
        · split
          · exact ⟨rfl, rEq_hold _ h1 h4⟩
          · split
            · split
              · exact ⟨rfl, h⟩
              · exact ⟨rfl, rEq_beg _ rfl h4⟩
            · split
              · exact ⟨rfl, rEq_st _ _ _ h (fun _ => rfl)⟩
              · split
                · exact ⟨rfl, rEq_st _ _ _ h (fun _ => rfl)⟩
                · split
                  · exact ⟨rfl, rEq_st _ _ _ h (fun _ => rfl)⟩
                  · split
                    · exact ⟨rfl, rEq_st _ _ _ h (fun _ => rfl)⟩
                    · exact ⟨rfl, h⟩
      · rw [if_neg e3, if_neg e3]
        unfold rJnt
        rw [← h1, rEq_so h]
        split
        · exact ⟨rfl, rEq_st _ _ _ h (fun z => absurd z (by decide))⟩
        · split
          · exact ⟨rfl, rEq_beg _ h1 (fun k hk => h4 k (by omega))⟩
          · split
            · exact ⟨rfl, h⟩
            · refine ⟨rfl, rEq_hold _ rfl (fun k hk => h4 k ?_)⟩
              have : k < r.1 - 1 + 1 := hk
              omega
theorem rGo_eq {n : Nat} {b : Nat → Nat} : ∀ k e r r', rEq r r' → rGo n b k e r = rGo n b k e r'
  | 0, _, _, _, _ => rfl
  | k + 1, e, r, r', h => by
    have h1 := rEq_tk h (spl b (tkA n b e) (tkZ n b (tkA n b e))) (srt n b (tkA n b e)) (tkN b (tkA n b e) (tkZ n b (tkA n b e)))
    rw [rGo_succ, rGo_succ, rEq_so h, h1.1, rGo_eq k _ _ _ h1.2, ← h.1, ← h.2.1]
theorem Pg_eq {n s : Nat} {b : Nat → Nat} {r r' : RS} (h : rEq r r') : Pg n b s r = Pg n b s r' := rGo_eq _ _ _ _ h
theorem any_and {s : Nat} (h : s < 2 ^ 61) : anyS &&& s = s := by
  show (2 ^ 61 - 1) &&& s = s
  rw [Nat.and_comm, Nat.and_two_pow_sub_one_eq_mod, Nat.mod_eq_of_lt h]
theorem up1_up1 {α : Type} (f : Nat → α) (o : Nat) (x y : α) : up1 (up1 f o x) o y = up1 f o y := by
  funext k
  unfold up1
  split <;> rfl
def hS (d : Bool) (s : Nat) : Nat := if d then anyS - s else s
theorem rHold_d (s : Nat) (r : RS) : rHold s r = (r.1, r.2.1, up1 r.2.2.1 r.1 (r.2.2.1 r.1 &&& hS (r.2.2.2.1 r.1) s), up1 r.2.2.2.1 r.1 false, 2, r.2.2.2.2.2) := rfl
theorem hold_deny {r : RS} {s : Nat} (h : s < 2 ^ 61) : rHold s (rDeny r) = rHold (anyS - s) r := by
  have h2 : anyS - (anyS - s) = s := by have : anyS = 2 ^ 61 - 1 := rfl; omega
  rw [rHold_d, rHold_d]
  unfold rDeny
  dsimp only
  rw [up1_up1, up1_eq]
  cases r.2.2.2.1 r.1
  · rfl
  · show (_, _, up1 _ _ (_ &&& s), _) = (_, _, up1 _ _ (_ &&& (anyS - (anyS - s))), _)
    rw [h2]
theorem hold_and {r : RS} {s t : Nat} (hd : r.2.2.2.1 r.1 = false) (c : Nat) (hc : c = r.2.2.2.2.2) : rHold t (rSt 0 c (rHold s r)) = rHold (s &&& t) r := by
  subst hc
  rw [rHold_d, rHold_d, rHold_d]
  unfold rSt
  dsimp only
  rw [up1_up1, up1_up1, up1_eq, up1_eq, hd]
  show (r.1, r.2.1, up1 r.2.2.1 r.1 ((r.2.2.1 r.1 &&& s) &&& t), _, _, _) = (r.1, r.2.1, up1 r.2.2.1 r.1 (r.2.2.1 r.1 &&& (s &&& t)), _, _, _)
  rw [Nat.and_assoc]
theorem so_beg {r : RS} {a s : Nat} (hs : s < 2 ^ 61) : rSo (rHold s (rBeg a r)) = a ||| s := by
  rw [rHold_d]
  unfold rSo rBeg
  dsimp only
  rw [up1_eq, up1_eq, up1_eq, up1_eq]
  show a ||| (anyS &&& s) = _
  rw [any_and hs]
theorem beg_beg {r : RS} {a s x : Nat} : rBeg x (rHold s (rBeg a r)) = rBeg x r := by
  unfold rHold rBeg
  dsimp only
  rw [up1_up1, up1_up1, up1_up1, up1_up1, up1_up1]
theorem spl_in {n s i : Nat} {b : Nat → Nat} (hs : s ≤ n) (hi : i < 10) (h : spl b s (tkZ n b s) i = true) : s < n ∧ srt n b s ≠ 2 := by
  have hz := tkZ_le (b := b) hs
  have : s < n ∧ ¬ (48 ≤ b s ∧ b s ≤ 57) := by
    rcases (show i = 0 ∨ i = 1 ∨ i = 2 ∨ i = 3 ∨ i = 4 ∨ i = 5 ∨ i = 6 ∨ i = 7 ∨ i = 8 ∨ i = 9 by omega) with rfl | rfl | rfl | rfl | rfl | rfl | rfl | rfl | rfl | rfl
    · have g := spl_0.mp h; rw [Nat.add_zero] at g; omega
    · have g := spl_1.mp h; rw [Nat.add_zero] at g; omega
    · have g := spl_2.mp h; rw [Nat.add_zero] at g; omega
    · have g := spl_3.mp h; rw [Nat.add_zero] at g; omega
    · have g := spl_4.mp h; rw [Nat.add_zero] at g; omega
    · have g := spl_5.mp h; rw [Nat.add_zero] at g; omega
    · have g := spl_6.mp h; rw [Nat.add_zero] at g; omega
    · have g := spl_7.mp h; rw [Nat.add_zero] at g; omega
    · have g := spl_8.mp h; rw [Nat.add_zero] at g; omega
    · have g := spl_9.mp h; rw [Nat.add_zero] at g; omega
  exact ⟨this.1, fun z => this.2 (srt_2.mp z).2⟩
theorem P_not {n s : Nat} {b : Nat → Nat} {r : RS} (hA : tkA n b s = s) (hs : s ≤ n) (hst : r.2.2.2.2.1 = 0) (h : spl b s (tkZ n b s) 0 = true) : Pg n b s r = Pg n b (nxP n b s) (rDeny r) := by
  have hl := spl_in hs (by decide) h
  refine Pg_on hA hl.1 ?_
  show rTk _ _ _ r = _
  unfold rTk
  rw [if_neg (by omega), if_neg hl.2, if_pos hst]
  unfold rBegn
  rw [if_pos h]
theorem P_any {n s : Nat} {b : Nat → Nat} {r : RS} (hA : tkA n b s = s) (hs : s ≤ n) (hst : r.2.2.2.2.1 = 0) (h : spl b s (tkZ n b s) 1 = true) : Pg n b s r = Pg n b (nxP n b s) (rHold anyS r) := by
  have hl := spl_in hs (by decide) h
  refine Pg_on hA hl.1 ?_
  show rTk _ _ _ r = _
  unfold rTk
  rw [if_neg (by omega), if_neg hl.2, if_pos hst]
  unfold rBegn
  rw [if_neg (show ¬ (spl b s (tkZ n b s) 0 = true) from fun z => by have g1 := spl_0.mp z; have g2 := spl_1.mp h; omega), if_pos h]
theorem P_open {n s : Nat} {b : Nat → Nat} {r : RS} (hA : tkA n b s = s) (hs : s ≤ n) (hst : r.2.2.2.2.1 = 0) (ho : r.1 < 4) (h : spl b s (tkZ n b s) 2 = true) : Pg n b s r = Pg n b (nxP n b s) (rBeg 0 (rOp (r.1 + 1) r)) := by
  have hl := spl_in hs (by decide) h
  refine Pg_on hA hl.1 ?_
  show rTk _ _ _ r = _
  unfold rTk
  rw [if_neg (by omega), if_neg hl.2, if_pos hst]
  unfold rBegn
  rw [if_neg (show ¬ (spl b s (tkZ n b s) 0 = true) from fun z => by have g1 := spl_0.mp z; have g2 := spl_2.mp h; omega), if_neg (show ¬ (spl b s (tkZ n b s) 1 = true) from fun z => by have g1 := spl_1.mp z; have g2 := spl_2.mp h; omega), if_pos h, if_neg (by omega)]
theorem P_t3 {n s : Nat} {b : Nat → Nat} {r : RS} (hA : tkA n b s = s) (hs : s ≤ n) (hst : r.2.2.2.2.1 = 0) (h : spl b s (tkZ n b s) 3 = true) : Pg n b s r = Pg n b (nxP n b s) (rSt 1 0 r) := by
  have hl := spl_in hs (by decide) h
  refine Pg_on hA hl.1 ?_
  show rTk _ _ _ r = _
  unfold rTk
  rw [if_neg (by omega), if_neg hl.2, if_pos hst]
  unfold rBegn
  rw [if_neg (show ¬ (spl b s (tkZ n b s) 0 = true) from fun z => by have g1 := spl_0.mp z; have g2 := spl_3.mp h; omega), if_neg (show ¬ (spl b s (tkZ n b s) 1 = true) from fun z => by have g1 := spl_1.mp z; have g2 := spl_3.mp h; omega), if_neg (show ¬ (spl b s (tkZ n b s) 2 = true) from fun z => by have g1 := spl_2.mp z; have g2 := spl_3.mp h; omega)]
  unfold rTest
  rw [if_pos h]
theorem P_t4 {n s : Nat} {b : Nat → Nat} {r : RS} (hA : tkA n b s = s) (hs : s ≤ n) (hst : r.2.2.2.2.1 = 0) (h : spl b s (tkZ n b s) 4 = true) : Pg n b s r = Pg n b (nxP n b s) (rSt 1 1 r) := by
  have hl := spl_in hs (by decide) h
  refine Pg_on hA hl.1 ?_
  show rTk _ _ _ r = _
  unfold rTk
  rw [if_neg (by omega), if_neg hl.2, if_pos hst]
  unfold rBegn
  rw [if_neg (show ¬ (spl b s (tkZ n b s) 0 = true) from fun z => by have g1 := spl_0.mp z; have g2 := spl_4.mp h; omega), if_neg (show ¬ (spl b s (tkZ n b s) 1 = true) from fun z => by have g1 := spl_1.mp z; have g2 := spl_4.mp h; omega), if_neg (show ¬ (spl b s (tkZ n b s) 2 = true) from fun z => by have g1 := spl_2.mp z; have g2 := spl_4.mp h; omega)]
  unfold rTest
  rw [if_neg (show ¬ (spl b s (tkZ n b s) 3 = true) from fun z => by have g1 := spl_3.mp z; have g2 := spl_4.mp h; omega), if_pos h]
theorem P_t5 {n s : Nat} {b : Nat → Nat} {r : RS} (hA : tkA n b s = s) (hs : s ≤ n) (hst : r.2.2.2.2.1 = 0) (h : spl b s (tkZ n b s) 5 = true) : Pg n b s r = Pg n b (nxP n b s) (rSt 1 2 r) := by
  have hl := spl_in hs (by decide) h
  refine Pg_on hA hl.1 ?_
  show rTk _ _ _ r = _
  unfold rTk
  rw [if_neg (by omega), if_neg hl.2, if_pos hst]
  unfold rBegn
  rw [if_neg (show ¬ (spl b s (tkZ n b s) 0 = true) from fun z => by have g1 := spl_0.mp z; have g2 := spl_5.mp h; omega), if_neg (show ¬ (spl b s (tkZ n b s) 1 = true) from fun z => by have g1 := spl_1.mp z; have g2 := spl_5.mp h; omega), if_neg (show ¬ (spl b s (tkZ n b s) 2 = true) from fun z => by have g1 := spl_2.mp z; have g2 := spl_5.mp h; omega)]
  unfold rTest
  rw [if_neg (show ¬ (spl b s (tkZ n b s) 3 = true) from fun z => by have g1 := spl_3.mp z; have g2 := spl_5.mp h; omega), if_neg (show ¬ (spl b s (tkZ n b s) 4 = true) from fun z => by have g1 := spl_4.mp z; have g2 := spl_5.mp h; omega), if_pos h]
theorem P_t6 {n s : Nat} {b : Nat → Nat} {r : RS} (hA : tkA n b s = s) (hs : s ≤ n) (hst : r.2.2.2.2.1 = 0) (h : spl b s (tkZ n b s) 6 = true) : Pg n b s r = Pg n b (nxP n b s) (rSt 1 3 r) := by
  have hl := spl_in hs (by decide) h
  refine Pg_on hA hl.1 ?_
  show rTk _ _ _ r = _
  unfold rTk
  rw [if_neg (by omega), if_neg hl.2, if_pos hst]
  unfold rBegn
  rw [if_neg (show ¬ (spl b s (tkZ n b s) 0 = true) from fun z => by have g1 := spl_0.mp z; have g2 := spl_6.mp h; omega), if_neg (show ¬ (spl b s (tkZ n b s) 1 = true) from fun z => by have g1 := spl_1.mp z; have g2 := spl_6.mp h; omega), if_neg (show ¬ (spl b s (tkZ n b s) 2 = true) from fun z => by have g1 := spl_2.mp z; have g2 := spl_6.mp h; omega)]
  unfold rTest
  rw [if_neg (show ¬ (spl b s (tkZ n b s) 3 = true) from fun z => by have g1 := spl_3.mp z; have g2 := spl_6.mp h; omega), if_neg (show ¬ (spl b s (tkZ n b s) 4 = true) from fun z => by have g1 := spl_4.mp z; have g2 := spl_6.mp h; omega), if_neg (show ¬ (spl b s (tkZ n b s) 5 = true) from fun z => by have g1 := spl_5.mp z; have g2 := spl_6.mp h; omega), if_pos h]
theorem P_and {n s : Nat} {b : Nat → Nat} {r : RS} (hA : tkA n b s = s) (hs : s ≤ n) (hst : r.2.2.2.2.1 = 2) (h : spl b s (tkZ n b s) 7 = true) : Pg n b s r = Pg n b (nxP n b s) (rSt 0 r.2.2.2.2.2 r) := by
  have hl := spl_in hs (by decide) h
  refine Pg_on hA hl.1 ?_
  show rTk _ _ _ r = _
  unfold rTk
  rw [if_neg (by omega), if_neg hl.2, if_neg (by omega)]
  unfold rJnt
  rw [if_pos h]
theorem P_or {n s : Nat} {b : Nat → Nat} {r : RS} (hA : tkA n b s = s) (hs : s ≤ n) (hst : r.2.2.2.2.1 = 2) (h : spl b s (tkZ n b s) 8 = true) : Pg n b s r = Pg n b (nxP n b s) (rBeg (rSo r) r) := by
  have hl := spl_in hs (by decide) h
  refine Pg_on hA hl.1 ?_
  show rTk _ _ _ r = _
  unfold rTk
  rw [if_neg (by omega), if_neg hl.2, if_neg (by omega)]
  unfold rJnt
  rw [if_neg (show ¬ (spl b s (tkZ n b s) 7 = true) from fun z => by have g1 := spl_7.mp z; have g2 := spl_8.mp h; omega), if_pos h]
theorem P_close {n s : Nat} {b : Nat → Nat} {r : RS} (hA : tkA n b s = s) (hs : s ≤ n) (hst : r.2.2.2.2.1 = 2) (ho : 1 ≤ r.1) (h : spl b s (tkZ n b s) 9 = true) : Pg n b s r = Pg n b (nxP n b s) (rHold (rSo r) (rOp (r.1 - 1) r)) := by
  have hl := spl_in hs (by decide) h
  refine Pg_on hA hl.1 ?_
  show rTk _ _ _ r = _
  unfold rTk
  rw [if_neg (by omega), if_neg hl.2, if_neg (by omega)]
  unfold rJnt
  rw [if_neg (show ¬ (spl b s (tkZ n b s) 7 = true) from fun z => by have g1 := spl_7.mp z; have g2 := spl_9.mp h; omega), if_neg (show ¬ (spl b s (tkZ n b s) 8 = true) from fun z => by have g1 := spl_8.mp z; have g2 := spl_9.mp h; omega), if_neg (fun z => by rcases z with z | z; exact absurd (h.symm.trans z) (by decide); omega)]
theorem P_none {n s : Nat} {b : Nat → Nat} {r : RS} (hA : tkA n b s = s) (hs : s ≤ n) (hst : r.2.2.2.2.1 = 0) (n0 : ¬ (spl b s (tkZ n b s) 0 = true)) (n1 : ¬ (spl b s (tkZ n b s) 1 = true)) (n3 : ¬ (spl b s (tkZ n b s) 3 = true)) (n4 : ¬ (spl b s (tkZ n b s) 4 = true)) (n5 : ¬ (spl b s (tkZ n b s) 5 = true)) (n6 : ¬ (spl b s (tkZ n b s) 6 = true)) (n2 : spl b s (tkZ n b s) 2 = true → 4 ≤ r.1) : (Pg n b s r).1 = s := by
  by_cases hl : s < n
  · refine Pg_no hA hl ?_
    show (rTk _ _ _ r).1 = false
    unfold rTk
    rw [if_neg (by omega)]
    by_cases e2 : srt n b s = 2
    · rw [if_pos e2]
    · rw [if_neg e2, if_pos hst]
      unfold rBegn rTest
      rw [if_neg n0, if_neg n1, if_neg n3, if_neg n4, if_neg n5, if_neg n6]
      by_cases e3 : spl b s (tkZ n b s) 2 = true
      · rw [if_pos e3, if_pos (n2 e3)]
      · rw [if_neg e3]
  · exact Pg_bad hA (by omega) hs (fun z => by omega)
theorem P_stop {n s : Nat} {b : Nat → Nat} {r : RS} (hA : tkA n b s = s) (hs : s ≤ n) (hst : r.2.2.2.2.1 = 2) (n7 : ¬ (spl b s (tkZ n b s) 7 = true)) (n8 : ¬ (spl b s (tkZ n b s) 8 = true)) (n9 : spl b s (tkZ n b s) 9 = true → r.1 < 1) (he : s < n ∨ r.1 ≠ 0) : (Pg n b s r).1 = s := by
  by_cases hl : s < n
  · refine Pg_no hA hl ?_
    show (rTk _ _ _ r).1 = false
    unfold rTk
    rw [if_neg (by omega)]
    by_cases e2 : srt n b s = 2
    · rw [if_pos e2]
    · rw [if_neg e2, if_neg (by omega)]
      unfold rJnt
      rw [if_neg n7, if_neg n8]
      by_cases e3 : spl b s (tkZ n b s) 9 = true
      · rw [if_pos (Or.inr (n9 e3))]
      · rw [if_pos (Or.inl (Bool.eq_false_iff.mpr e3))]
  · exact Pg_bad hA (by omega) hs (fun z => by omega)
theorem P_num {n s : Nat} {b : Nat → Nat} {r : RS} (hA : tkA n b s = s) (hs : s ≤ n) (ts : Nat) (hok : nbO n b s (if ts = 2 then 1 else 0)) (S : Nat) (hS : ∀ k : Nat, (k : Int) = tkN b s (tkZ n b s) → setN (fun j => psR ts j k) 61 = S) : Pg n b s (rSt 1 ts r) = Pg n b (nxP n b s) (rHold S r) := by
  have h1 := hok.1
  have h2 := hok.2
  have hl : s < n := (srt_2.mp h1).1
  have h3 := tkN_ok h1
  have h4 : 0 ≤ tkN b s (tkZ n b s) := by split at h2 <;> omega
  refine (Pg_on hA hl (r' := rHold S (rSt 1 ts r)) ?_).trans (Pg_eq (rEq_hold S rfl (fun k _ => ⟨rfl, rfl, rfl⟩)))
  show rTk _ _ _ (rSt 1 ts r) = _
  unfold rTk
  rw [if_pos (show (rSt 1 ts r).2.2.2.2.1 = 1 from rfl), if_pos h1]
  unfold rNum
  rw [if_neg (fun z => by
    rcases z with z | ⟨z1, z2⟩
    · omega
    · have z2 : ts = 2 := z2
      rw [if_pos z2] at h2; omega)]
  show (true, rHold (setN (fun k => psR ts k (tkN b s (tkZ n b s)).toNat) 61) _) = _
  rw [hS _ (Int.toNat_of_nonneg h4)]
theorem P_nonum {n s : Nat} {b : Nat → Nat} {r : RS} (hA : tkA n b s = s) (hs : s ≤ n) (ts : Nat) (hok : ¬ nbO n b s (if ts = 2 then 1 else 0)) : (Pg n b s (rSt 1 ts r)).1 = s := by
  by_cases hl : s < n
  · refine Pg_no hA hl ?_
    show (rTk _ _ _ (rSt 1 ts r)).1 = false
    unfold rTk
    rw [if_pos (show (rSt 1 ts r).2.2.2.2.1 = 1 from rfl)]
    by_cases e2 : srt n b s = 2
    · rw [if_pos e2]
      unfold rNum
      have h3 := tkN_ok e2
      rw [if_pos]
      show _ ∨ (_ ∧ ts = 2)
      by_cases e3 : ts = 2
      · rw [if_pos e3] at hok
        by_cases e4 : 1 ≤ tkN b s (tkZ n b s)
        · exact absurd ⟨e2, e4⟩ hok
        · omega
      · rw [if_neg e3] at hok
        by_cases e4 : 0 ≤ tkN b s (tkZ n b s)
        · exact absurd ⟨e2, e4⟩ hok
        · omega
    · rw [if_neg e2]
  · exact Pg_bad hA (by omega) hs (fun z => absurd z.1 (show ¬ (1 : Nat) = 2 by decide))
/-- a bracket that closes -/
theorem close_eq {r : RS} {a s : Nat} (hs : s < 2 ^ 61) : rEq (rHold (rSo (rHold s (rBeg a (rOp (r.1 + 1) r)))) (rOp r.1 (rHold s (rBeg a (rOp (r.1 + 1) r))))) (rHold (a ||| s) r) := by
  rw [so_beg hs]
  refine rEq_hold _ rfl (fun k hk => ?_)
  have hk : k < r.1 + 1 := hk
  have hn : k ≠ r.1 + 1 := by omega
  refine ⟨?_, ?_, ?_⟩
  · show up1 r.2.1 (r.1 + 1) a k = _
    rw [up1_ne _ _ hn]
  · show up1 (up1 r.2.2.1 (r.1 + 1) anyS) (r.1 + 1) _ k = _
    rw [up1_ne _ _ hn, up1_ne _ _ hn]
  · show up1 (up1 r.2.2.2.1 (r.1 + 1) false) (r.1 + 1) false k = _
    rw [up1_ne _ _ hn, up1_ne _ _ hn]
