/-- the turn from one direction to another -/
def dt (u v : Nat × Nat) : Int := (u.1 : Int) * (v.2 : Int) - (u.2 : Int) * (v.1 : Int)
def okD (x : Nat × Nat) : Prop := x.1 ≤ 4 ∧ x.2 ≤ 4 ∧ Nat.gcd x.1 x.2 = 1
def okV (x : Nat × Nat) : Prop := x.1 ≤ 4 ∧ x.2 ≤ 4 ∧ 1 ≤ x.1 + x.2
def prm (x : Nat × Nat) : Nat × Nat := (x.1 / Nat.gcd x.1 x.2, x.2 / Nat.gcd x.1 x.2)
theorem dt_pos {u v : Nat × Nat} : 0 < dt u v ↔ u.2 * v.1 < u.1 * v.2 := by
  have e1 : (u.1 : Int) * (v.2 : Int) = ((u.1 * v.2 : Nat) : Int) := by simp
  have e2 : (u.2 : Int) * (v.1 : Int) = ((u.2 * v.1 : Nat) : Int) := by simp
  unfold dt; rw [e1, e2]; omega
theorem dt_zero {u v : Nat × Nat} : dt u v = 0 ↔ u.2 * v.1 = u.1 * v.2 := by
  have e1 : (u.1 : Int) * (v.2 : Int) = ((u.1 * v.2 : Nat) : Int) := by simp
  have e2 : (u.2 : Int) * (v.1 : Int) = ((u.2 * v.1 : Nat) : Int) := by simp
  unfold dt; rw [e1, e2]; omega
theorem dt_neg (u v : Nat × Nat) : dt v u = - dt u v := by
  unfold dt
  rw [Int.mul_comm (v.1 : Int), Int.mul_comm (v.2 : Int)]; omega
theorem n5 {a : Nat} (h : a ≤ 4) : a < 5 := Nat.lt_succ_of_le h
def all5 (f : Nat → Bool) : Bool := f 0 && (f 1 && (f 2 && (f 3 && f 4)))
theorem all5_at {f : Nat → Bool} (h : all5 f = true) {a : Nat} (ha : a < 5) : f a = true := by
  unfold all5 at h
  simp only [Bool.and_eq_true] at h
  obtain ⟨h0, h1, h2, h3, h4⟩ := h
  rcases (show a = 0 ∨ a = 1 ∨ a = 2 ∨ a = 3 ∨ a = 4 by omega) with e | e | e | e | e <;> subst e <;> assumption
theorem dec_trans0 : (all5 fun a => all5 fun b => all5 fun c => all5 fun d => all5 fun e => all5 fun f => !(Nat.blt (b * c) (a * d)) || !(Nat.blt (d * e) (c * f)) || Nat.blt (b * e) (a * f)) = true := by decide +kernel
theorem dec_trans (a : Nat) (ha : a < 5) (b : Nat) (hb : b < 5) (c : Nat) (hc : c < 5) (d : Nat) (hd : d < 5) (h1 : b * c < a * d) (e : Nat) (he : e < 5) (f : Nat) (hf : f < 5) (h2 : d * e < c * f) : b * e < a * f := by
  have h := all5_at (all5_at (all5_at (all5_at (all5_at (all5_at dec_trans0 ha) hb) hc) hd) he) hf
  simp only [Bool.or_eq_true, Bool.not_eq_true', Nat.blt_eq] at h
  rcases h with (h | h) | h
  · exact absurd (Nat.blt_eq.mpr h1) (by rw [h]; decide)
  · exact absurd (Nat.blt_eq.mpr h2) (by rw [h]; decide)
  · exact h
theorem dec_par0 : (all5 fun c => all5 fun d => Nat.beq (c + d) 0 || all5 fun a => all5 fun b => !(Nat.beq (b * c) (a * d)) || all5 fun e => all5 fun f => (!(Nat.beq (d * e) (c * f)) || Nat.beq (b * e) (a * f)) && (Nat.beq (a + b) 0 || ((!(Nat.blt (d * e) (c * f)) || Nat.blt (b * e) (a * f)) && (!(Nat.blt (c * f) (d * e)) || Nat.blt (a * f) (b * e))))) = true := by decide +kernel
theorem dec_par (c : Nat) (hc : c < 5) (d : Nat) (hd : d < 5) (h1 : 1 ≤ c + d) (a : Nat) (ha : a < 5) (b : Nat) (hb : b < 5) (h2 : b * c = a * d) (e : Nat) (he : e < 5) (f : Nat) (hf : f < 5) : (d * e = c * f → b * e = a * f) ∧ (1 ≤ a + b → d * e < c * f → b * e < a * f) ∧ (1 ≤ a + b → c * f < d * e → a * f < b * e) := by
  have h := all5_at (all5_at dec_par0 hc) hd
  simp only [Bool.or_eq_true] at h
  rcases h with h | h
  · exact absurd (Nat.eq_of_beq_eq_true h) (by omega)
  · have h3 := all5_at (all5_at h ha) hb
    simp only [Bool.or_eq_true] at h3
    rcases h3 with h3 | h3
    · rw [h2] at h3
      have h5 : Nat.beq (a * d) (a * d) = true := Nat.beq_refl _
      rw [h5] at h3
      exact absurd h3 (by decide)
    · have h4 := all5_at (all5_at h3 he) hf
      simp only [Bool.and_eq_true, Bool.or_eq_true, Bool.not_eq_true', Nat.blt_eq] at h4
      obtain ⟨h5, h6⟩ := h4
      refine ⟨fun q => ?_, fun g q => ?_, fun g q => ?_⟩
      · rcases h5 with h5 | h5
        · rw [q] at h5
          have h7 : Nat.beq (c * f) (c * f) = true := Nat.beq_refl _
          rw [h7] at h5
          exact absurd h5 (by decide)
        · exact Nat.eq_of_beq_eq_true h5
      · rcases h6 with h6 | h6
        · exact absurd (Nat.eq_of_beq_eq_true h6) (by omega)
        · rcases h6.1 with h7 | h7
          · exact absurd (Nat.blt_eq.mpr q) (by rw [h7]; decide)
          · exact h7
      · rcases h6 with h6 | h6
        · exact absurd (Nat.eq_of_beq_eq_true h6) (by omega)
        · rcases h6.2 with h7 | h7
          · exact absurd (Nat.blt_eq.mpr q) (by rw [h7]; decide)
          · exact h7
theorem dec_prm : ∀ a, a < 5 → ∀ b, b < 5 → 1 ≤ a + b → Nat.gcd (a / Nat.gcd a b) (b / Nat.gcd a b) = 1 ∧ a / Nat.gcd a b < 5 ∧ b / Nat.gcd a b < 5 ∧ (a / Nat.gcd a b) * b = (b / Nat.gcd a b) * a ∧ 1 ≤ a / Nat.gcd a b + b / Nat.gcd a b := by decide +kernel
theorem dec_one0 : (all5 fun a => all5 fun b => !(Nat.beq (Nat.gcd a b) 1) || (Nat.ble 1 (a + b) && all5 fun c => all5 fun d => !(Nat.beq (Nat.gcd c d) 1) || !(Nat.beq (b * c) (a * d)) || (Nat.beq a c && Nat.beq b d))) = true := by decide +kernel
theorem dec_one (a : Nat) (ha : a < 5) (b : Nat) (hb : b < 5) (h1 : Nat.gcd a b = 1) : 1 ≤ a + b ∧ ∀ c, c < 5 → ∀ d, d < 5 → Nat.gcd c d = 1 → b * c = a * d → a = c ∧ b = d := by
  have h := all5_at (all5_at dec_one0 ha) hb
  rw [h1] at h
  simp only [Bool.or_eq_true, Bool.and_eq_true] at h
  rcases h with h | h
  · exact absurd h (by decide)
  · refine ⟨Nat.le_of_ble_eq_true h.1, fun c hc d hd g1 g2 => ?_⟩
    have h3 := all5_at (all5_at h.2 hc) hd
    rw [g1, g2] at h3
    have h5 : Nat.beq (a * d) (a * d) = true := Nat.beq_refl _
    rw [h5] at h3
    simp only [Bool.or_eq_true, Bool.and_eq_true] at h3
    rcases h3 with (h3 | h3) | h3
    · exact absurd h3 (by decide)
    · exact absurd h3 (by decide)
    · exact ⟨Nat.eq_of_beq_eq_true h3.1, Nat.eq_of_beq_eq_true h3.2⟩
theorem okD_V {x : Nat × Nat} (h : okD x) : okV x := ⟨h.1, h.2.1, (dec_one _ (n5 h.1) _ (n5 h.2.1) h.2.2).1⟩
theorem prm_ok {x : Nat × Nat} (h : okV x) : okD (prm x) := by
  obtain ⟨h1, h2, h3, h4, h5⟩ := dec_prm _ (n5 h.1) _ (n5 h.2.1) h.2.2
  exact ⟨Nat.le_of_lt_succ h2, Nat.le_of_lt_succ h3, h1⟩
theorem prm_par {x : Nat × Nat} (h : okV x) : dt (prm x) x = 0 := by
  obtain ⟨h1, h2, h3, h4, h5⟩ := dec_prm _ (n5 h.1) _ (n5 h.2.1) h.2.2
  exact dt_zero.mpr h4.symm
theorem dt_trans {u v w : Nat × Nat} (hu : u.1 ≤ 4 ∧ u.2 ≤ 4) (hv : v.1 ≤ 4 ∧ v.2 ≤ 4) (hw : w.1 ≤ 4 ∧ w.2 ≤ 4) (h1 : 0 < dt u v) (h2 : 0 < dt v w) : 0 < dt u w :=
  dt_pos.mpr (dec_trans _ (n5 hu.1) _ (n5 hu.2) _ (n5 hv.1) _ (n5 hv.2) (dt_pos.mp h1) _ (n5 hw.1) _ (n5 hw.2) (dt_pos.mp h2))
/-- one direction for another of the same ray -/
theorem dt_same {u v w : Nat × Nat} (hu : okV u) (hv : okV v) (hw : w.1 ≤ 4 ∧ w.2 ≤ 4) (h : dt u v = 0) : (dt v w = 0 → dt u w = 0) ∧ (0 < dt v w → 0 < dt u w) ∧ (dt v w < 0 → dt u w < 0) := by
  have h0 := dec_par _ (n5 hv.1) _ (n5 hv.2.1) hv.2.2 _ (n5 hu.1) _ (n5 hu.2.1) (dt_zero.mp h) _ (n5 hw.1) _ (n5 hw.2)
  refine ⟨fun e => dt_zero.mpr (h0.1 (dt_zero.mp e)), fun e => dt_pos.mpr (h0.2.1 hu.2.2 (dt_pos.mp e)), fun e => ?_⟩
  have e1 : 0 < dt w v := by rw [dt_neg v w]; omega
  have e2 := dt_pos.mp e1
  have e3 : w.2 * u.1 < w.1 * u.2 := by
    have := h0.2.2 hu.2.2 (by rw [Nat.mul_comm v.1, Nat.mul_comm v.2]; exact e2)
    rw [Nat.mul_comm w.2, Nat.mul_comm w.1]; exact this
  have e4 : 0 < dt w u := dt_pos.mpr e3
  rw [dt_neg u w] at e4; omega
theorem okD_one {u v : Nat × Nat} (hu : okD u) (hv : okD v) (h : dt u v = 0) : u = v := by
  have h1 := (dec_one _ (n5 hu.1) _ (n5 hu.2.1) hu.2.2).2 _ (n5 hv.1) _ (n5 hv.2.1) hv.2.2 (dt_zero.mp h)
  exact Prod.ext h1.1 h1.2
/-- rays in their order -/
def goodL (l : List (Nat × Nat)) : Prop := (∀ x ∈ l, okD x) ∧ l.Pairwise (fun u v => 0 < dt u v)
theorem insR_nil (a b : Nat) : insR [] a b = [prm (a, b)] := by
  unfold insR
  rw [if_neg (by intro h; exact absurd h.1 (Nat.not_lt_zero _))]
  rfl
theorem insR_pos (x : Nat × Nat) (l : List (Nat × Nat)) {a b : Nat} (h : 0 < dt x (a, b)) : insR (x :: l) a b = x :: insR l a b := by
  have e : plc (x :: l) a b = plc l a b + 1 := by
    show (if 0 < (x.1 : Int) * (b : Int) - (x.2 : Int) * (a : Int) then _ else _) = _
    rw [if_pos (show 0 < (x.1 : Int) * (b : Int) - (x.2 : Int) * (a : Int) from h)]
  have e2 : (plc l a b + 1 < (x :: l).length ∧ crs (x :: l) (plc l a b + 1) a b = 0) ↔ (plc l a b < l.length ∧ crs l (plc l a b) a b = 0) := by
    rw [List.length_cons]
    exact ⟨fun q => ⟨by omega, q.2⟩, fun q => ⟨by omega, q.2⟩⟩
  unfold insR
  rw [e]
  by_cases c : plc l a b < l.length ∧ crs l (plc l a b) a b = 0
  · rw [if_pos c, if_pos (e2.mpr c)]
  · rw [if_neg c, if_neg (fun z => c (e2.mp z))]
    rfl
theorem insR_zero (x : Nat × Nat) (l : List (Nat × Nat)) {a b : Nat} (h : dt x (a, b) = 0) : insR (x :: l) a b = x :: l := by
  have e : plc (x :: l) a b = 0 := by
    show (if 0 < (x.1 : Int) * (b : Int) - (x.2 : Int) * (a : Int) then _ else _) = _
    have h1 : (x.1 : Int) * (b : Int) - (x.2 : Int) * (a : Int) = 0 := h
    rw [if_neg (by omega)]
  unfold insR
  rw [e, if_pos ⟨by rw [List.length_cons]; omega, h⟩]
theorem insR_neg (x : Nat × Nat) (l : List (Nat × Nat)) {a b : Nat} (h : dt x (a, b) < 0) : insR (x :: l) a b = prm (a, b) :: x :: l := by
  have h1 : (x.1 : Int) * (b : Int) - (x.2 : Int) * (a : Int) < 0 := h
  have e : plc (x :: l) a b = 0 := by
    show (if 0 < (x.1 : Int) * (b : Int) - (x.2 : Int) * (a : Int) then _ else _) = _
    rw [if_neg (by omega)]
  have e3 : crs (x :: l) 0 a b = (x.1 : Int) * (b : Int) - (x.2 : Int) * (a : Int) := rfl
  unfold insR
  rw [e, if_neg (by intro z; rw [e3] at z; omega)]
  rfl
theorem insR_mem {l : List (Nat × Nat)} {a b : Nat} : ∀ {x}, x ∈ insR l a b → x ∈ l ∨ x = prm (a, b) := by
  induction l with
  | nil => intro x hx; rw [insR_nil] at hx; exact Or.inr (List.mem_singleton.mp hx)
  | cons y l ih =>
    intro x hx
    rcases Int.lt_trichotomy (dt y (a, b)) 0 with h | h | h
    · rw [insR_neg y l h] at hx
      rcases List.mem_cons.mp hx with e | e
      · exact Or.inr e
      · exact Or.inl e
    · rw [insR_zero y l h] at hx; exact Or.inl hx
    · rw [insR_pos y l h] at hx
      rcases List.mem_cons.mp hx with e | e
      · exact Or.inl (by rw [e]; exact List.mem_cons_self)
      · rcases ih e with e | e
        · exact Or.inl (List.mem_cons_of_mem _ e)
        · exact Or.inr e
theorem insR_has {l : List (Nat × Nat)} {a b : Nat} : ∀ {x}, x ∈ l → x ∈ insR l a b := by
  induction l with
  | nil => intro x hx; cases hx
  | cons y l ih =>
    intro x hx
    rcases Int.lt_trichotomy (dt y (a, b)) 0 with h | h | h
    · rw [insR_neg y l h]; exact List.mem_cons_of_mem _ hx
    · rw [insR_zero y l h]; exact hx
    · rw [insR_pos y l h]
      rcases List.mem_cons.mp hx with e | e
      · rw [e]; exact List.mem_cons_self
      · exact List.mem_cons_of_mem _ (ih e)
theorem insR_self {l : List (Nat × Nat)} {a b : Nat} (hv : okV (a, b)) : ∃ x, x ∈ insR l a b ∧ dt x (a, b) = 0 := by
  induction l with
  | nil => exact ⟨prm (a, b), by rw [insR_nil]; exact List.mem_singleton.mpr rfl, prm_par hv⟩
  | cons y l ih =>
    rcases Int.lt_trichotomy (dt y (a, b)) 0 with h | h | h
    · rw [insR_neg y l h]; exact ⟨_, List.mem_cons_self, prm_par hv⟩
    · rw [insR_zero y l h]; exact ⟨y, List.mem_cons_self, h⟩
    · rw [insR_pos y l h]
      obtain ⟨x, h1, h2⟩ := ih
      exact ⟨x, List.mem_cons_of_mem _ h1, h2⟩
theorem good_tail {x : Nat × Nat} {l : List (Nat × Nat)} (h : goodL (x :: l)) : okD x ∧ goodL l ∧ ∀ y ∈ l, 0 < dt x y :=
  ⟨h.1 x List.mem_cons_self, ⟨fun y hy => h.1 y (List.mem_cons_of_mem _ hy), (List.pairwise_cons.mp h.2).2⟩, (List.pairwise_cons.mp h.2).1⟩
theorem good_cons {x : Nat × Nat} {l : List (Nat × Nat)} (hx : okD x) (h : goodL l) (hy : ∀ y ∈ l, 0 < dt x y) : goodL (x :: l) :=
  ⟨fun y h1 => (List.mem_cons.mp h1).elim (fun e => by rw [e]; exact hx) (h.1 y), List.pairwise_cons.mpr ⟨hy, h.2⟩⟩
theorem sm {x : Nat × Nat} (h : okD x) : x.1 ≤ 4 ∧ x.2 ≤ 4 := ⟨h.1, h.2.1⟩
theorem smV {x : Nat × Nat} (h : okV x) : x.1 ≤ 4 ∧ x.2 ≤ 4 := ⟨h.1, h.2.1⟩
theorem neg_flip {u v : Nat × Nat} (h : dt u v < 0) : 0 < dt v u := by rw [dt_neg u v]; omega
theorem good_ins {a b : Nat} (hv : okV (a, b)) : ∀ {l : List (Nat × Nat)}, goodL l → goodL (insR l a b)
  | [], _ => by rw [insR_nil]; exact good_cons (prm_ok hv) ⟨fun x hx => (by cases hx), List.Pairwise.nil⟩ (fun y hy => by cases hy)
  | x :: l, hg => by
    obtain ⟨hx, hl, hxl⟩ := good_tail hg
    have hp := prm_ok hv
    rcases Int.lt_trichotomy (dt x (a, b)) 0 with h | h | h
    · rw [insR_neg x l h]
      have h1 : 0 < dt (prm (a, b)) x := (dt_same (okD_V hp) hv (sm hx) (prm_par hv)).2.1 (neg_flip h)
      refine good_cons hp hg fun y hy => ?_
      rcases List.mem_cons.mp hy with e | e
      · rw [e]; exact h1
      · exact dt_trans (sm hp) (sm hx) (sm (hl.1 y e)) h1 (hxl y e)
    · rw [insR_zero x l h]; exact hg
    · rw [insR_pos x l h]
      refine good_cons hx (good_ins hv hl) fun y hy => ?_
      rcases insR_mem hy with e | e
      · exact hxl y e
      · rw [e]
        have h2 : dt (prm (a, b)) x < 0 := (dt_same (okD_V hp) hv (sm hx) (prm_par hv)).2.2 (by rw [dt_neg x]; omega)
        exact neg_flip h2
/-- is one of these on the ray of (a, b) -/
def isPar (l : List (Nat × Nat)) (a b : Nat) : Bool := l.any (fun x => decide (dt x (a, b) = 0))
theorem isPar_iff {l : List (Nat × Nat)} {a b : Nat} : isPar l a b = true ↔ ∃ x, x ∈ l ∧ dt x (a, b) = 0 := by
  unfold isPar
  rw [List.any_eq_true]
  exact ⟨fun ⟨x, h1, h2⟩ => ⟨x, h1, of_decide_eq_true h2⟩, fun ⟨x, h1, h2⟩ => ⟨x, h1, decide_eq_true h2⟩⟩
theorem ins_count {a b : Nat} (hv : okV (a, b)) (F : Nat × Nat → Bool) : ∀ {l : List (Nat × Nat)}, goodL l → (insR l a b).countP F = l.countP F + if isPar l a b = true then 0 else if F (prm (a, b)) = true then 1 else 0
  | [], _ => by
    rw [insR_nil, if_neg (by intro h; obtain ⟨x, hx, _⟩ := isPar_iff.mp h; cases hx), List.countP_cons]
  | x :: l, hg => by
    obtain ⟨hx, hl, hxl⟩ := good_tail hg
    rcases Int.lt_trichotomy (dt x (a, b)) 0 with h | h | h
    · have h0 : ¬ isPar (x :: l) a b = true := by
        intro h1
        obtain ⟨y, hy, h2⟩ := isPar_iff.mp h1
        rcases List.mem_cons.mp hy with e | e
        · rw [e] at h2; omega
        · have h3 := dt_trans (smV hv) (sm hx) (sm (hl.1 y e)) (neg_flip h) (hxl y e)
          rw [dt_neg y] at h3; omega
      rw [insR_neg x l h, if_neg h0, List.countP_cons]
    · rw [insR_zero x l h, if_pos (isPar_iff.mpr ⟨x, List.mem_cons_self, h⟩)]; rfl
    · have h0 : isPar (x :: l) a b = isPar l a b := by
        show (decide (dt x (a, b) = 0) || _) = _
        rw [decide_eq_false (by omega)]; rfl
      rw [insR_pos x l h, h0, List.countP_cons, List.countP_cons, ins_count hv F hl]; omega
abbrev dP (t : PT) (p : Nat) : Nat × Nat := (pa t p, pb t p)
theorem okP_V {t : PT} (h : okP t) {p : Nat} (hp : p < pm t) : okV (dP t p) := ⟨(h.2 p hp).1, (h.2 p hp).2.1, (h.2 p hp).2.2.1⟩
/-- no part before it goes that way -/
def fstP (t : PT) (p : Nat) : Bool := (List.range p).all (fun q => decide (dt (dP t p) (dP t q) ≠ 0))
theorem fstP_iff {t : PT} {p : Nat} : fstP t p = true ↔ ∀ q, q < p → dt (dP t p) (dP t q) ≠ 0 := by
  unfold fstP
  rw [List.all_eq_true]
  exact ⟨fun h q hq => of_decide_eq_true (h q (List.mem_range.mpr hq)), fun h q hq => decide_eq_true (h q (List.mem_range.mp hq))⟩
/-- how many of the first parts are first of their rays, and such -/
def cntF (t : PT) (F : Nat × Nat → Bool) : Nat → Nat
  | 0 => 0
  | k + 1 => cntF t F k + if fstP t k = true ∧ F (dP t k) = true then 1 else 0
theorem rays_ok {t : PT} (h : okP t) : ∀ k, k ≤ pm t → goodL (raysP t k) ∧ (∀ q, q < k → ∃ x, x ∈ raysP t k ∧ dt x (dP t q) = 0) ∧ (∀ x, x ∈ raysP t k → ∃ q, q < k ∧ x = prm (dP t q))
  | 0, _ => ⟨⟨fun x hx => (by cases hx), List.Pairwise.nil⟩, fun q hq => absurd hq (Nat.not_lt_zero _), fun x hx => by cases hx⟩
  | k + 1, hk => by
    obtain ⟨h1, h2, h3⟩ := rays_ok h k (by omega)
    have hv := okP_V h (p := k) (by omega)
    refine ⟨good_ins hv h1, fun q hq => ?_, fun x hx => ?_⟩
    · by_cases e : q = k
      · rw [e]; exact insR_self hv
      · obtain ⟨x, g1, g2⟩ := h2 q (by omega)
        exact ⟨x, insR_has g1, g2⟩
    · rcases insR_mem hx with e | e
      · obtain ⟨q, g1, g2⟩ := h3 x e
        exact ⟨q, by omega, g2⟩
      · exact ⟨k, by omega, e⟩
theorem par_fst {t : PT} (h : okP t) {k : Nat} (hk : k < pm t) : isPar (raysP t k) (pa t k) (pb t k) = true ↔ ¬ fstP t k = true := by
  obtain ⟨h1, h2, h3⟩ := rays_ok h k (by omega)
  have hv := okP_V h hk
  constructor
  · intro hp hf
    obtain ⟨x, hx, e⟩ := isPar_iff.mp hp
    obtain ⟨q, hq, e2⟩ := h3 x hx
    have hvq := okP_V h (p := q) (by omega)
    have hpq := prm_ok hvq
    have e3 : dt (dP t q) (prm (dP t q)) = 0 := by rw [dt_neg, prm_par hvq]; rfl
    have e4 : dt (dP t q) (dP t k) = 0 := (dt_same hvq (okD_V hpq) (smV hv) e3).1 (by rw [← e2]; exact e)
    exact fstP_iff.mp hf q hq (by rw [dt_neg, e4]; rfl)
  · intro hf
    have h4 : ∃ q, q < k ∧ dt (dP t k) (dP t q) = 0 := by
      apply Classical.byContradiction
      intro hn
      exact hf (fstP_iff.mpr fun q hq e => hn ⟨q, hq, e⟩)
    obtain ⟨q, hq, e⟩ := h4
    obtain ⟨x, hx, e2⟩ := h2 q hq
    have hvq := okP_V h (p := q) (by omega)
    exact isPar_iff.mpr ⟨x, hx, (dt_same (okD_V (h1.1 x hx)) hvq (smV hv) e2).1 (by rw [dt_neg, e]; rfl)⟩
theorem cnt_eq {t : PT} (h : okP t) (F : Nat × Nat → Bool) (hF : ∀ x, okV x → F (prm x) = F x) : ∀ k, k ≤ pm t → (raysP t k).countP F = cntF t F k
  | 0, _ => rfl
  | k + 1, hk => by
    have hv := okP_V h (p := k) (by omega)
    have hg := (rays_ok h k (by omega)).1
    have e := hF _ hv
    show (insR (raysP t k) (pa t k) (pb t k)).countP F = cntF t F k + _
    rw [ins_count hv F hg, cnt_eq h F hF k (by omega)]
    by_cases c : isPar (raysP t k) (pa t k) (pb t k) = true
    · rw [if_pos c, if_neg (fun z => (par_fst h (by omega)).mp c z.1)]
    · have c2 : fstP t k = true := Classical.byContradiction fun z => c ((par_fst h (by omega)).mpr z)
      rw [if_neg c]
      show _ + (if F (prm (dP t k)) = true then 1 else 0) = _
      rw [e]
      by_cases c3 : F (dP t k) = true
      · rw [if_pos c3, if_pos ⟨c2, c3⟩]
      · rw [if_neg c3, if_neg (fun z => c3 z.2)]
/-- where a direction's ray stands -/
theorem fz_at {a b : Nat} (hv : okV (a, b)) : ∀ {l : List (Nat × Nat)}, goodL l → ∀ {x}, x ∈ l → dt x (a, b) = 0 → fz l a b < l.length ∧ l.getD (fz l a b) (0, 0) = x ∧ l.countP (fun y => decide (0 < dt y (a, b))) = fz l a b ∧ ∀ r, r < l.length → (dt (l.getD r (0, 0)) (a, b) = 0 ↔ r = fz l a b)
  | [], _, x, hx, _ => by cases hx
  | y :: l, hg, x, hx, e => by
    obtain ⟨hy, hl, hyl⟩ := good_tail hg
    by_cases c : dt y (a, b) = 0
    · have ex : x = y := by
        have hxD := hg.1 x hx
        refine okD_one hxD hy ?_
        exact (dt_same (okD_V hxD) hv (sm hy) e).1 (by rw [dt_neg, c]; rfl)
      have ef : fz (y :: l) a b = 0 := by
        show (if _ then _ else _) = _
        rw [if_pos (show (y.1 : Int) * (b : Int) - (y.2 : Int) * (a : Int) = 0 from c)]
      have hneg : ∀ z ∈ l, dt z (a, b) < 0 := fun z hz => by
        have h1 := (dt_same hv (okD_V hy) (sm (hl.1 z hz)) (by rw [dt_neg, c]; rfl)).2.1 (hyl z hz)
        rw [dt_neg z] at h1; omega
      have h0 : l.countP (fun y => decide (0 < dt y (a, b))) = 0 := by
        rw [List.countP_eq_zero]
        intro z hz h1
        have h2 := of_decide_eq_true h1
        have h3 := hneg z hz
        omega
      rw [ef]
      refine ⟨by rw [List.length_cons]; omega, by rw [ex]; rfl, ?_, fun r hr => ?_⟩
      · rw [List.countP_cons, h0, if_neg (by intro h1; have h2 := of_decide_eq_true h1; omega)]
      · cases r with
        | zero => exact ⟨fun _ => rfl, fun _ => c⟩
        | succ r =>
          rw [List.length_cons] at hr
          have h5 : (y :: l).getD (r + 1) (0, 0) = l.getD r (0, 0) := rfl
          have h6 : l.getD r (0, 0) ∈ l := by
            rw [List.getD_eq_getElem?_getD, List.getElem?_eq_getElem (by omega)]
            exact List.getElem_mem _
          have h7 := hneg _ h6
          rw [h5]
          exact ⟨fun h8 => by omega, fun h8 => by omega⟩
    · have hxl : x ∈ l := by
        rcases List.mem_cons.mp hx with e1 | e1
        · rw [e1] at e; exact absurd e c
        · exact e1
      obtain ⟨i1, i2, i3, i4⟩ := fz_at hv hl hxl e
      have ef : fz (y :: l) a b = fz l a b + 1 := by
        show (if _ then _ else _) = _
        rw [if_neg (show ¬ (y.1 : Int) * (b : Int) - (y.2 : Int) * (a : Int) = 0 from c)]
      have hpos : 0 < dt y (a, b) := by
        have h1 := hyl x hxl
        have h2 : 0 < dt y x := h1
        have h3 : dt x y < 0 := by rw [dt_neg y x]; omega
        have h4 := (dt_same hv (okD_V (hl.1 x hxl)) (sm hy) (by rw [dt_neg, e]; rfl)).2.2 h3
        exact neg_flip h4
      rw [ef]
      refine ⟨by rw [List.length_cons]; omega, i2, ?_, fun r hr => ?_⟩
      · rw [List.countP_cons, i3, if_pos (decide_eq_true hpos)]
      · cases r with
        | zero => exact ⟨fun h8 => absurd h8 c, fun h8 => by omega⟩
        | succ r =>
          rw [List.length_cons] at hr
          have h5 : (y :: l).getD (r + 1) (0, 0) = l.getD r (0, 0) := rfl
          rw [h5, i4 r (by omega)]
          omega
theorem good_chamber {l : List (Nat × Nat)} (h : goodL l) {c : Nat} (hc : c + 1 < l.length) : 1 ≤ lD l c := by
  have h1 := (List.pairwise_iff_getElem.mp h.2) c (c + 1) (by omega) hc (by omega)
  have e : ∀ k (hk : k < l.length), l.getD k (0, 0) = l[k] := fun k hk => by rw [List.getD_eq_getElem?_getD, List.getElem?_eq_getElem hk]; rfl
  unfold lD ra rb
  rw [e c (by omega), e (c + 1) hc]
  exact h1
theorem rays_D {t : PT} (h : okP t) {c : Nat} (hc : c + 1 < (raysA t).length) : 1 ≤ lD (raysA t) c := good_chamber (rays_ok h (pm t) (Nat.le_refl _)).1 hc
/-- a part's own ray -/
theorem ray_of {t : PT} (h : okP t) {p : Nat} (hp : p < pm t) : fz (raysA t) (pa t p) (pb t p) < (raysA t).length ∧ (raysA t).getD (fz (raysA t) (pa t p) (pb t p)) (0, 0) = prm (dP t p) ∧ cntF t (fun y => decide (0 < dt y (dP t p))) (pm t) = fz (raysA t) (pa t p) (pb t p) ∧ ∀ r, r < (raysA t).length → (dt ((raysA t).getD r (0, 0)) (dP t p) = 0 ↔ r = fz (raysA t) (pa t p) (pb t p)) := by
  obtain ⟨h1, h2, h3⟩ := rays_ok h (pm t) (Nat.le_refl _)
  obtain ⟨x, hx, e⟩ := h2 p hp
  have hv := okP_V h hp
  obtain ⟨i1, i2, i3, i4⟩ := fz_at hv h1 hx e
  refine ⟨i1, ?_, ?_, i4⟩
  · rw [i2]
    have hxD := h1.1 x hx
    exact okD_one hxD (prm_ok hv) ((dt_same (okD_V hxD) hv (sm (prm_ok hv)) e).1 (by rw [dt_neg, prm_par hv]; rfl))
  · rw [← i3, cnt_eq h _ (fun z hz => ?_) (pm t) (Nat.le_refl _)]
    have hs := dt_same (okD_V (prm_ok hz)) hz (smV hv) (prm_par hz)
    by_cases c : 0 < dt z (dP t p)
    · rw [decide_eq_true c, decide_eq_true (hs.2.1 c)]
    · have c2 : ¬ 0 < dt (prm z) (dP t p) := by
        rcases Int.lt_trichotomy (dt z (dP t p)) 0 with c1 | c1 | c1
        · have := hs.2.2 c1; omega
        · have := hs.1 c1; omega
        · exact absurd c1 c
      rw [decide_eq_false c, decide_eq_false c2]
theorem rays_len {t : PT} (h : okP t) : (raysA t).length = cntF t (fun _ => true) (pm t) := by
  rw [← cnt_eq h (fun _ => true) (fun _ _ => rfl) (pm t) (Nat.le_refl _), List.countP_true]
/-- each ray is one of a first part -/
theorem ray_first {t : PT} (h : okP t) {r : Nat} (hr : r < (raysA t).length) : ∃ p, p < pm t ∧ fstP t p = true ∧ fz (raysA t) (pa t p) (pb t p) = r := by
  obtain ⟨h1, h2, h3⟩ := rays_ok h (pm t) (Nat.le_refl _)
  have hm : (raysA t).getD r (0, 0) ∈ raysA t := by
    rw [List.getD_eq_getElem?_getD, List.getElem?_eq_getElem hr]
    exact List.getElem_mem _
  obtain ⟨q, hq, e⟩ := h3 _ hm
  have key : ∀ n q, q < n → q < pm t → dt ((raysA t).getD r (0, 0)) (dP t q) = 0 → ∃ p, p < pm t ∧ fstP t p = true ∧ fz (raysA t) (pa t p) (pb t p) = r := by
    intro n
    induction n with
    | zero => intro q hn; exact absurd hn (Nat.not_lt_zero _)
    | succ n ih =>
      intro q hn hq e
      by_cases c : fstP t q = true
      · exact ⟨q, hq, c, (((ray_of h hq).2.2.2 r hr).mp e).symm⟩
      · have h4 : ∃ q', q' < q ∧ dt (dP t q) (dP t q') = 0 := by
          apply Classical.byContradiction
          intro hn
          exact c (fstP_iff.mpr fun q' hq' e => hn ⟨q', hq', e⟩)
        obtain ⟨q', hq', e'⟩ := h4
        refine ih q' (by omega) (by omega) ?_
        exact (dt_same (okD_V (h1.1 _ hm)) (okP_V h hq) (smV (okP_V h (p := q') (by omega))) e).1 e'
  refine key (q + 1) q (by omega) hq ?_
  rw [e]
  exact prm_par (okP_V h hq)
