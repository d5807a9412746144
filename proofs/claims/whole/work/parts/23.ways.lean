def wsm (f : Nat → Nat → Nat) (s a b : Nat) : Nat → Nat → Nat → Nat → Nat
  | 0, _, _, _ => 0
  | n + 1, k, x, y => bitOf s k * f x y + if a ≤ x ∧ b ≤ y then wsm f s a b n (k + 1) (x - a) (y - b) else 0
theorem wsm_le {f : Nat → Nat → Nat} {c : Nat} (hf : ∀ x y, f x y ≤ c) (s a b : Nat) : ∀ n k x y, wsm f s a b n k x y ≤ n * c
  | 0, _, _, _ => Nat.zero_le _
  | n + 1, k, x, y => by
    have h1 := wsm_le hf s a b n (k + 1) (x - a) (y - b)
    have h2 : bitOf s k * f x y ≤ 1 * c := Nat.mul_le_mul (bitOf_le s k) (hf x y)
    have h3 : (n + 1) * c = n * c + c := Nat.succ_mul n c
    show bitOf s k * f x y + (if _ then _ else 0) ≤ _
    split <;> omega
def oneN (x y : Nat) : Nat := if x = 0 ∧ y = 0 then 1 else 0
/-- how many ways with the last q parts -/
def Wy (t : PT) : Nat → Nat → Nat → Nat
  | 0 => oneN
  | q + 1 => wsm (Wy t q) (ps t (pm t - (q + 1))) (pa t (pm t - (q + 1))) (pb t (pm t - (q + 1))) 61 0
theorem Wy_pow (t : PT) : ∀ q x y, Wy t q x y ≤ 61 ^ q
  | 0, x, y => by show oneN x y ≤ 1; unfold oneN; split <;> omega
  | q + 1, x, y => by
    have h := wsm_le (Wy_pow t q) (ps t (pm t - (q + 1))) (pa t (pm t - (q + 1))) (pb t (pm t - (q + 1))) 61 0 x y
    have e : 61 ^ (q + 1) = 61 * 61 ^ q := by rw [Nat.pow_succ, Nat.mul_comm]
    rw [e]; exact h
theorem Wy_le (t : PT) {q : Nat} (hq : q ≤ 6) (x y : Nat) : Wy t q x y ≤ 51520374361 := Nat.le_trans (Wy_pow t q x y) (Nat.le_trans (Nat.pow_le_pow_right (by decide) hq) (by decide))
theorem Wy_part (t : PT) {p : Nat} (hp : p < pm t) : Wy t (pm t - p) = wsm (Wy t (pm t - (p + 1))) (ps t p) (pa t p) (pb t p) 61 0 := by
  obtain ⟨q, hq⟩ : ∃ q, pm t - p = q + 1 := ⟨pm t - p - 1, by omega⟩
  rw [hq, show pm t - (p + 1) = q by omega]
  show wsm _ (ps t (pm t - (q + 1))) (pa t (pm t - (q + 1))) (pb t (pm t - (q + 1))) 61 0 = _
  rw [show pm t - (q + 1) = p by omega]
theorem Wy_end (t : PT) {p : Nat} (hp : pm t ≤ p) : Wy t (pm t - p) = oneN := by rw [show pm t - p = 0 by omega]; rfl
/-- every number is let: one is taken, or none -/
def anyS : Nat := 2305843009213693951
theorem any_bit {k : Nat} (h : k < 61) : bitOf anyS k = 1 := (show ∀ k, k < 61 → bitOf anyS k = 1 by decide) k h
theorem any_wsm (f : Nat → Nat → Nat) (a b : Nat) : ∀ n k x y j, k + n ≤ 61 → j + n + 1 ≤ 61 → ((1 ≤ a ∧ x < n) ∨ (1 ≤ b ∧ y < n)) → wsm f anyS a b n k x y = wsm f anyS a b (n + 1) j x y
  | 0, k, x, y, j, _, _, h => by omega
  | n + 1, k, x, y, j, h1, h2, h => by
    show bitOf anyS k * f x y + (if _ then _ else 0) = bitOf anyS j * f x y + (if _ then wsm f anyS a b (n + 1) (j + 1) _ _ else 0)
    rw [any_bit (by omega), any_bit (by omega)]
    by_cases e : a ≤ x ∧ b ≤ y
    · rw [if_pos e, if_pos e]
      by_cases e2 : (1 ≤ a ∧ x - a < n) ∨ (1 ≤ b ∧ y - b < n)
      · rw [any_wsm f a b n (k + 1) (x - a) (y - b) (j + 1) (by omega) (by omega) e2]
      · exfalso; omega
    · rw [if_neg e, if_neg e]
theorem Wy_any {t : PT} (hK : okP t) {p : Nat} (hp : p < pm t) (hs : ps t p = anyS) {x y : Nat} (hx : x ≤ 60) (hy : y ≤ 60) : Wy t (pm t - p) x y = Wy t (pm t - (p + 1)) x y + if pa t p ≤ x ∧ pb t p ≤ y then Wy t (pm t - p) (x - pa t p) (y - pb t p) else 0 := by
  rw [Wy_part t hp, hs]
  generalize Wy t (pm t - (p + 1)) = f
  have hab := (hK.2 p hp).2.2.1
  show bitOf anyS 0 * f x y + (if _ then wsm f anyS _ _ 60 1 _ _ else 0) = _
  rw [any_bit (by decide), Nat.one_mul]
  by_cases e : pa t p ≤ x ∧ pb t p ≤ y
  · rw [if_pos e, if_pos e, any_wsm f _ _ 60 1 _ _ 0 (by decide) (by decide) (by omega)]
  · rw [if_neg e, if_neg e]
/-- how many ways from part p on take k of it -/
def thr (t : PT) (p x y k : Nat) : Nat := bitOf (ps t p) k * if k * pa t p ≤ x ∧ k * pb t p ≤ y then Wy t (pm t - (p + 1)) (x - k * pa t p) (y - k * pb t p) else 0
theorem thr_le (t : PT) (hm : pm t ≤ 6) (p x y k : Nat) : thr t p x y k ≤ 51520374361 := by
  unfold thr
  have h1 := bitOf_le (ps t p) k
  have h2 : (if k * pa t p ≤ x ∧ k * pb t p ≤ y then Wy t (pm t - (p + 1)) (x - k * pa t p) (y - k * pb t p) else 0) ≤ 51520374361 := by
    split
    · exact Wy_le t (by omega) _ _
    · exact Nat.zero_le _
  have h3 := Nat.mul_le_mul h1 h2
  omega
def sumK (g : Nat → Nat) : Nat → Nat → Nat
  | 0, _ => 0
  | n + 1, k => g k + sumK g n (k + 1)
theorem sumK_0 {g : Nat → Nat} : ∀ n k, (∀ j, k ≤ j → j < k + n → g j = 0) → sumK g n k = 0
  | 0, _, _ => rfl
  | n + 1, k, h => by show g k + sumK g n (k + 1) = 0; rw [h k (by omega) (by omega), sumK_0 n (k + 1) (fun j h1 h2 => h j (by omega) (by omega))]
theorem wsm_sum (t : PT) (p X Y : Nat) : ∀ n k x y, k * pa t p + x = X → k * pb t p + y = Y → wsm (Wy t (pm t - (p + 1))) (ps t p) (pa t p) (pb t p) n k x y = sumK (thr t p X Y) n k
  | 0, _, _, _, _, _ => rfl
  | n + 1, k, x, y, hx, hy => by
    show bitOf _ _ * _ + (if _ then _ else 0) = thr t p X Y k + sumK (thr t p X Y) n (k + 1)
    have e1 : thr t p X Y k = bitOf (ps t p) k * Wy t (pm t - (p + 1)) x y := by
      unfold thr
      rw [if_pos (by omega), show X - k * pa t p = x by omega, show Y - k * pb t p = y by omega]
    rw [e1]
    congr 1
    have k1 : (k + 1) * pa t p = k * pa t p + pa t p := Nat.succ_mul _ _
    have k2 : (k + 1) * pb t p = k * pb t p + pb t p := Nat.succ_mul _ _
    by_cases e : pa t p ≤ x ∧ pb t p ≤ y
    · rw [if_pos e]
      exact wsm_sum t p X Y n (k + 1) (x - pa t p) (y - pb t p) (by omega) (by omega)
    · rw [if_neg e]
      refine (sumK_0 n (k + 1) (fun j h1 h2 => ?_)).symm
      have g1 := Nat.mul_le_mul_right (pa t p) h1
      have g2 := Nat.mul_le_mul_right (pb t p) h1
      unfold thr
      rw [if_neg (by omega), Nat.mul_zero]
theorem Wy_thr (t : PT) {p : Nat} (hp : p < pm t) (x y : Nat) : Wy t (pm t - p) x y = sumK (thr t p x y) 61 0 := by
  rw [Wy_part t hp]
  exact wsm_sum t p x y 61 0 x y (by omega) (by omega)
/-- taken one by one: how many, and which one is left among those that take so many -/
def tkk (g : Nat → Nat) : Nat → Nat → Nat → Nat × Nat
  | 0, k, r => (k, r)
  | n + 1, k, r => if g k ≤ r then tkk g n (k + 1) (r - g k) else (k, r)
theorem tkk_ok (g : Nat → Nat) : ∀ n k r, r < sumK g (n + 1) k → (tkk g n k r).2 < g (tkk g n k r).1 ∧ (tkk g n k r).1 ≤ k + n ∧ k ≤ (tkk g n k r).1 ∧ (tkk g n k r).2 ≤ r
  | 0, k, r, h => by
    have h2 : r < g k + 0 := h
    exact ⟨h2, Nat.le_refl _, Nat.le_refl _, Nat.le_refl _⟩
  | n + 1, k, r, h => by
    have h2 : r < g k + sumK g (n + 1) (k + 1) := h
    show ((if _ then _ else _ : Nat × Nat).2 < g (if _ then _ else _ : Nat × Nat).1) ∧ (if _ then _ else _ : Nat × Nat).1 ≤ _ ∧ _ ≤ (if _ then _ else _ : Nat × Nat).1 ∧ (if _ then _ else _ : Nat × Nat).2 ≤ _
    by_cases e : g k ≤ r
    · rw [if_pos e]
      have := tkk_ok g n (k + 1) (r - g k) (by omega)
      exact ⟨this.1, by omega, by omega, by omega⟩
    · rw [if_neg e]
      exact ⟨by show r < g k; omega, by show k ≤ _; omega, Nat.le_refl _, Nat.le_refl _⟩
/-- what the r-th way takes of a part -/
def tak (t : PT) (part : Nat) : Nat → Nat → Nat → Nat → Nat → Nat
  | 0, _, _, _, _ => 0
  | n + 1, p, x, y, r => if p = part then (tkk (thr t p x y) 60 0 r).1 else tak t part n (p + 1) (x - (tkk (thr t p x y) 60 0 r).1 * pa t p) (y - (tkk (thr t p x y) 60 0 r).1 * pb t p) (tkk (thr t p x y) 60 0 r).2
theorem tak_next {t : PT} {p x y r : Nat} (hp : p < pm t) (hr : r < Wy t (pm t - p) x y) {k r' : Nat} (h : tkk (thr t p x y) 60 0 r = (k, r')) : k ≤ 60 ∧ k * pa t p ≤ x ∧ k * pb t p ≤ y ∧ r' < Wy t (pm t - (p + 1)) (x - k * pa t p) (y - k * pb t p) := by
  rw [Wy_thr t hp] at hr
  obtain ⟨h1, h2, h3, h4⟩ := tkk_ok (thr t p x y) 60 0 r hr
  rw [h] at h1 h2
  have h1' : r' < thr t p x y k := h1
  have h2' : k ≤ 0 + 60 := h2
  unfold thr at h1'
  by_cases e : k * pa t p ≤ x ∧ k * pb t p ≤ y
  · rw [if_pos e] at h1'
    have h5 := Nat.mul_le_mul_right (Wy t (pm t - (p + 1)) (x - k * pa t p) (y - k * pb t p)) (bitOf_le (ps t p) k)
    exact ⟨by omega, e.1, e.2, by omega⟩
  · rw [if_neg e, Nat.mul_zero] at h1'
    omega
