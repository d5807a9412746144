def fop (w : Nat) : Option Nat → Option Nat → Option Nat
  | none, v => v
  | some a, none => some a
  | some a, some b => some (if w = 0 then a + b else if w = 2 then min a b else max a b)
def fac (w k g : Nat) : Option Nat → Option Nat
  | none => none
  | some v => some (if w = 1 ∨ w = 2 then v + k else v * g)
theorem fop_n (w : Nat) (v : Option Nat) : fop w v none = v := by cases v <;> rfl
theorem fop_c (w : Nat) (u v : Option Nat) : fop w u v = fop w v u := by
  cases u <;> cases v <;> try rfl
  rename_i a b
  show some _ = some _
  congr 1
  split
  · omega
  · split <;> omega
theorem fop_a (w : Nat) (u v z : Option Nat) : fop w (fop w u v) z = fop w u (fop w v z) := by
  cases u <;> cases v <;> cases z <;> try rfl
  rename_i a b c
  show some _ = some _
  congr 1
  by_cases h0 : w = 0
  · simp only [h0, if_true]; omega
  · by_cases h2 : w = 2
    · simp only [h2]; simp [Nat.min_assoc]
    · simp only [h0, h2, if_false]; omega
theorem max_mul' (a b g : Nat) : max a b * g = max (a * g) (b * g) := by
  rcases Nat.le_total a b with h | h
  · rw [Nat.max_eq_right h, Nat.max_eq_right (Nat.mul_le_mul_right g h)]
  · rw [Nat.max_eq_left h, Nat.max_eq_left (Nat.mul_le_mul_right g h)]
theorem min_mul' (a b g : Nat) : min a b * g = min (a * g) (b * g) := by
  rcases Nat.le_total a b with h | h
  · rw [Nat.min_eq_left h, Nat.min_eq_left (Nat.mul_le_mul_right g h)]
  · rw [Nat.min_eq_right h, Nat.min_eq_right (Nat.mul_le_mul_right g h)]
theorem fac_op (w k g : Nat) (u v : Option Nat) : fac w k g (fop w u v) = fop w (fac w k g u) (fac w k g v) := by
  cases u <;> cases v <;> try rfl
  rename_i a b
  show some _ = some _
  congr 1
  by_cases h : w = 1 ∨ w = 2
  · simp only [if_pos h]
    rcases h with h | h <;> subst h <;> simp <;> omega
  · simp only [if_neg h]
    by_cases h0 : w = 0
    · simp only [h0, if_true]; exact Nat.add_mul _ _ _
    · simp only [h0, if_false]
      rw [if_neg (by omega), if_neg (by omega)]; exact max_mul' _ _ _
theorem fac_c (w k g j e : Nat) (v : Option Nat) : fac w k g (fac w j e v) = fac w j e (fac w k g v) := by
  cases v
  · rfl
  · rename_i a
    show some _ = some _
    congr 1
    by_cases h : w = 1 ∨ w = 2
    · simp only [if_pos h]; omega
    · simp only [if_neg h]; exact Nat.mul_right_comm _ _ _
/-- all joined, over a range -/
def fsm (w : Nat) (g : Nat → Option Nat) : Nat → Nat → Option Nat
  | 0, _ => none
  | n + 1, k => fop w (g k) (fsm w g n (k + 1))
theorem fsm_none {w : Nat} {g : Nat → Option Nat} : ∀ n k, (∀ j, k ≤ j → j < k + n → g j = none) → fsm w g n k = none
  | 0, _, _ => rfl
  | n + 1, k, h => by
    show fop w (g k) _ = none
    rw [h k (by omega) (by omega), fsm_none n (k + 1) (fun j h1 h2 => h j (by omega) (by omega))]; rfl
theorem fsm_cg {w : Nat} {g g' : Nat → Option Nat} : ∀ n k, (∀ j, k ≤ j → j < k + n → g j = g' j) → fsm w g n k = fsm w g' n k
  | 0, _, _ => rfl
  | n + 1, k, h => by
    show fop w (g k) _ = fop w (g' k) _
    rw [h k (by omega) (by omega), fsm_cg n (k + 1) (fun j h1 h2 => h j (by omega) (by omega))]
theorem fsm_op (w : Nat) (g g' : Nat → Option Nat) : ∀ n k, fsm w (fun j => fop w (g j) (g' j)) n k = fop w (fsm w g n k) (fsm w g' n k)
  | 0, _ => rfl
  | n + 1, k => by
    show fop w (fop w (g k) (g' k)) _ = fop w (fop w (g k) _) (fop w (g' k) _)
    rw [fsm_op w g g' n (k + 1), fop_a, fop_a]
    congr 1
    rw [← fop_a, ← fop_a, fop_c w (g' k)]
theorem fsm_swap (w : Nat) (E : Nat → Nat → Option Nat) (n' k' : Nat) : ∀ n k, fsm w (fun i => fsm w (E i) n' k') n k = fsm w (fun j => fsm w (fun i => E i j) n k) n' k'
  | 0, _ => by
    show none = _
    exact (fsm_none n' k' (fun _ _ _ => rfl)).symm
  | n + 1, k => by
    show fop w (fsm w (E k) n' k') (fsm w (fun i => fsm w (E i) n' k') n (k + 1)) = _
    rw [fsm_swap w E n' k' n (k + 1), ← fsm_op]
    rfl
theorem fac_sm (w k g : Nat) (f : Nat → Option Nat) : ∀ n j, fac w k g (fsm w f n j) = fsm w (fun i => fac w k g (f i)) n j
  | 0, _ => rfl
  | n + 1, j => by
    show fac w k g (fop w _ _) = fop w _ _
    rw [fac_op, fac_sm w k g f n (j + 1)]
/-- a part joins: by how many of it are taken -/
def fT (w : Nat) (f : Nat → Nat → Option Nat) (s a b c : Nat) : Nat → Nat → Nat → Nat → Option Nat
  | 0, _, _, _ => none
  | n + 1, k, x, y => fop w (if bitOf s k = 1 then fac w k (c ^ k) (f x y) else none) (if a ≤ x ∧ b ≤ y then fT w f s a b c n (k + 1) (x - a) (y - b) else none)
def fE (w : Nat) (f : Nat → Nat → Option Nat) (s a b c x y k : Nat) : Option Nat := if bitOf s k = 1 ∧ k * a ≤ x ∧ k * b ≤ y then fac w k (c ^ k) (f (x - k * a) (y - k * b)) else none
theorem fT_sum (w : Nat) (f : Nat → Nat → Option Nat) (s a b c X Y : Nat) : ∀ n k x y, k * a + x = X → k * b + y = Y → fT w f s a b c n k x y = fsm w (fE w f s a b c X Y) n k
  | 0, _, _, _, _, _ => rfl
  | n + 1, k, x, y, hx, hy => by
    show fop w _ _ = fop w (fE w f s a b c X Y k) _
    have k1 : (k + 1) * a = k * a + a := Nat.succ_mul _ _
    have k2 : (k + 1) * b = k * b + b := Nat.succ_mul _ _
    have e1 : fE w f s a b c X Y k = if bitOf s k = 1 then fac w k (c ^ k) (f x y) else none := by
      unfold fE
      rw [show X - k * a = x by omega, show Y - k * b = y by omega]
      by_cases e : bitOf s k = 1
      · rw [if_pos e, if_pos (by omega)]
      · rw [if_neg e, if_neg (by omega)]
    rw [e1]
    congr 1
    by_cases e : a ≤ x ∧ b ≤ y
    · rw [if_pos e]
      exact fT_sum w f s a b c X Y n (k + 1) (x - a) (y - b) (by omega) (by omega)
    · rw [if_neg e]
      refine (fsm_none n (k + 1) (fun j h1 h2 => ?_)).symm
      have g1 := Nat.mul_le_mul_right a h1
      have g2 := Nat.mul_le_mul_right b h1
      unfold fE
      rw [if_neg (by omega)]
def TT (w : Nat) (t : PT) (p : Nat) (f : Nat → Nat → Option Nat) (x y : Nat) : Option Nat := fT w f (ps t p) (pa t p) (pb t p) (pw t p) 61 0 x y
theorem TT_sum (w : Nat) (t : PT) (p : Nat) (f : Nat → Nat → Option Nat) (x y : Nat) : TT w t p f x y = fsm w (fE w f (ps t p) (pa t p) (pb t p) (pw t p) x y) 61 0 := fT_sum w f _ _ _ _ x y 61 0 x y (by omega) (by omega)
/-- taken of both -/
def fE2 (w : Nat) (t : PT) (p q : Nat) (f : Nat → Nat → Option Nat) (x y k j : Nat) : Option Nat :=
  if bitOf (ps t p) k = 1 ∧ bitOf (ps t q) j = 1 ∧ k * pa t p + j * pa t q ≤ x ∧ k * pb t p + j * pb t q ≤ y then fac w k (pw t p ^ k) (fac w j (pw t q ^ j) (f (x - (k * pa t p + j * pa t q)) (y - (k * pb t p + j * pb t q)))) else none
theorem TT_two (w : Nat) (t : PT) (p q : Nat) (f : Nat → Nat → Option Nat) (x y : Nat) : TT w t p (TT w t q f) x y = fsm w (fun k => fsm w (fE2 w t p q f x y k) 61 0) 61 0 := by
  rw [TT_sum]
  refine fsm_cg 61 0 (fun k _ _ => ?_)
  unfold fE
  by_cases e : bitOf (ps t p) k = 1 ∧ k * pa t p ≤ x ∧ k * pb t p ≤ y
  · rw [if_pos e, TT_sum, fac_sm]
    refine fsm_cg 61 0 (fun j _ _ => ?_)
    unfold fE fE2
    by_cases e2 : bitOf (ps t q) j = 1 ∧ j * pa t q ≤ x - k * pa t p ∧ j * pb t q ≤ y - k * pb t p
    · rw [if_pos e2, if_pos (by omega), Nat.sub_sub, Nat.sub_sub]
    · rw [if_neg e2, if_neg (by omega)]; rfl
  · rw [if_neg e]
    refine (fsm_none 61 0 (fun j _ _ => ?_)).symm
    unfold fE2
    rw [if_neg (by omega)]
theorem TT_comm (w : Nat) (t : PT) (p q : Nat) (f : Nat → Nat → Option Nat) : TT w t p (TT w t q f) = TT w t q (TT w t p f) := by
  funext x y
  rw [TT_two, TT_two, fsm_swap]
  refine fsm_cg 61 0 (fun j _ _ => fsm_cg 61 0 (fun k _ _ => ?_))
  unfold fE2
  by_cases e : bitOf (ps t p) k = 1 ∧ bitOf (ps t q) j = 1 ∧ k * pa t p + j * pa t q ≤ x ∧ k * pb t p + j * pb t q ≤ y
  · rw [if_pos e, if_pos (by omega), fac_c, Nat.add_comm (k * pa t p), Nat.add_comm (k * pb t p)]
  · rw [if_neg e, if_neg (by omega)]
def fO (w x y : Nat) : Option Nat := if x = 0 ∧ y = 0 then some (if w = 1 ∨ w = 2 then 0 else 1) else none
/-- the first parts, the first one first -/
def Ff (w : Nat) (t : PT) (f : Nat → Nat → Option Nat) (p : Nat) : Nat → Nat → Nat → Option Nat
  | 0 => f
  | q + 1 => TT w t (p + q) (Ff w t f p q)
/-- the same, the last one first -/
def Fb (w : Nat) (t : PT) (f : Nat → Nat → Option Nat) (p : Nat) : Nat → Nat → Nat → Option Nat
  | 0 => f
  | q + 1 => TT w t p (Fb w t f (p + 1) q)
theorem Ff_in (w : Nat) (t : PT) (p r : Nat) : ∀ q f, Ff w t (TT w t r f) p q = TT w t r (Ff w t f p q)
  | 0, _ => rfl
  | q + 1, f => by
    show TT w t (p + q) (Ff w t (TT w t r f) p q) = TT w t r (TT w t (p + q) (Ff w t f p q))
    rw [Ff_in w t p r q f, TT_comm]
theorem Ff_head (w : Nat) (t : PT) : ∀ q p f, Ff w t f p (q + 1) = TT w t p (Ff w t f (p + 1) q)
  | 0, _, _ => rfl
  | q + 1, p, f => by
    show TT w t (p + (q + 1)) (Ff w t f p (q + 1)) = TT w t p (TT w t (p + 1 + q) (Ff w t f (p + 1) q))
    rw [Ff_head w t q p f, TT_comm, show p + (q + 1) = p + 1 + q by omega]
theorem Ff_Fb (w : Nat) (t : PT) (f : Nat → Nat → Option Nat) : ∀ q p, Ff w t f p q = Fb w t f p q
  | 0, _ => rfl
  | q + 1, p => by
    rw [Ff_head]
    show _ = TT w t p (Fb w t f (p + 1) q)
    rw [Ff_Fb w t f q (p + 1)]
/-- what such a number is at most, or at least -/
def fok (w n : Nat) (v : Option Nat) : Prop := ∀ z, v = some z → ((w = 1 ∨ w = 2) → z ≤ n) ∧ (¬ (w = 1 ∨ w = 2) → 1 ≤ z)
theorem fok_none (w n : Nat) : fok w n none := fun z h => by cases h
theorem fok_op {w n : Nat} {u v : Option Nat} (hu : fok w n u) (hv : fok w n v) : fok w n (fop w u v) := by
  cases u <;> cases v
  · exact fok_none _ _
  · exact hv
  · exact hu
  · rename_i a b
    intro z h
    have h : (if w = 0 then a + b else if w = 2 then min a b else max a b) = z := Option.some.inj h
    have h1 := hu a rfl
    have h2 := hv b rfl
    split at h
    · omega
    · split at h <;> omega
theorem fok_T {w n : Nat} {f : Nat → Nat → Option Nat} (hf : ∀ x y, fok w n (f x y)) (s a b : Nat) {c : Nat} (hc : 1 ≤ c) : ∀ m k x y, k + m ≤ 61 → fok w (n + 60) (fT w f s a b c m k x y)
  | 0, _, _, _, _ => fok_none _ _
  | m + 1, k, x, y, h => by
    refine fok_op ?_ ?_
    · split
      · intro z hz
        cases hv : f x y with
        | none => rw [hv] at hz; cases hz
        | some v =>
          rw [hv] at hz
          have hz : (if w = 1 ∨ w = 2 then v + k else v * c ^ k) = z := Option.some.inj hz
          have h1 := hf x y v hv
          have h2 : 1 ≤ c ^ k := Nat.one_le_pow _ _ hc
          by_cases e : w = 1 ∨ w = 2
          · rw [if_pos e] at hz; omega
          · rw [if_neg e] at hz
            have := Nat.mul_le_mul (h1.2 e) h2
            omega
      · exact fok_none _ _
    · split
      · exact fok_T hf s a b hc m (k + 1) _ _ (by omega)
      · exact fok_none _ _
theorem fok_O (w x y : Nat) : fok w 0 (fO w x y) := by
  unfold fO
  split
  · intro z hz
    have hz := Option.some.inj hz
    split at hz <;> omega
  · exact fok_none _ _
theorem fok_Ff {w : Nat} {t : PT} (hK : okP t) {p : Nat} : ∀ q, p + q ≤ pm t → ∀ x y, fok w (60 * q) (Ff w t (fO w) p q x y)
  | 0, _, x, y => fok_O w x y
  | q + 1, h, x, y => by
    have := fok_T (fok_Ff (w := w) (p := p) hK q (by omega)) (ps t (p + q)) (pa t (p + q)) (pb t (p + q)) (c := pw t (p + q)) (hK.2 (p + q) (by omega)).2.2.2.1 61 0 x y (by decide)
    exact this
/-- how the class holds such a number: -3 for none, -16 if it is too great; the model: -1, -2 -/
def enk (no big : Int64) : Option Nat → Int64
  | none => no
  | some n => if n < 2 ^ 63 then lN n else big
