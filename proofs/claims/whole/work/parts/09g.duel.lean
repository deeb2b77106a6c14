/-! ===== layer B: the duel; what it is worth ===== -/
abbrev DD := (Nat → Nat) × (Nat → Nat) × (Nat → Nat)
/-- the better of two: the greater (true), the smaller (false) -/
def bo (g : Bool) (u v : Nat) : Nat := if g = true then max u v else min u v
def bI (g : Bool) (u v : Int) : Int := if g = true then max u v else min u v
def btr (g : Bool) (u v : Nat) : Bool := if g = true then decide (v < u) else decide (u < v)
/-- upwards, from so on -/
def xf (g : Bool) (f : Nat → Nat) : Nat → Nat → Nat → Nat
  | 0, _, so => so
  | d + 1, x, so => xf g f d (x + 1) (bo g so (f x))
def xc (g : Bool) (f : Nat → Nat) : Nat → Nat → Nat → Nat → Nat
  | 0, _, _, ch => ch
  | d + 1, x, so, ch => if btr g (f x) so = true then xc g f d (x + 1) (f x) x else xc g f d (x + 1) so ch
/-- downwards, from e on -/
def xI (g : Bool) (f : Nat → Nat) (e : Int) : Nat → Nat → Int
  | 0, _ => e
  | d + 1, x => bI g (f x) (xI g f e d (x + 1))
/-- the first that is w -/
def fs (f : Nat → Nat) (w : Nat) : Nat → Nat → Nat
  | 0, _ => 0
  | d + 1, x => if f x = w then x else fs f w d (x + 1)
theorem bo_le {g : Bool} {u v M : Nat} (hu : u ≤ M) (hv : v ≤ M) : bo g u v ≤ M := by
  unfold bo
  split <;> omega
theorem xf_le {g : Bool} {f : Nat → Nat} {M : Nat} : ∀ d x so, so ≤ M → (∀ y, x ≤ y → y < x + d → f y ≤ M) → xf g f d x so ≤ M := by
  intro d
  induction d with
  | zero => intro x so h _; exact h
  | succ d ih =>
    intro x so h hf
    exact ih (x + 1) _ (bo_le h (hf x (by omega) (by omega))) (fun y h1 h2 => hf y (by omega) (by omega))
theorem xf_congr {g : Bool} {f f' : Nat → Nat} : ∀ d x so, (∀ y, x ≤ y → y < x + d → f y = f' y) → xf g f d x so = xf g f' d x so := by
  intro d
  induction d with
  | zero => intro x so _; rfl
  | succ d ih =>
    intro x so hf
    show xf g f d (x + 1) (bo g so (f x)) = xf g f' d (x + 1) (bo g so (f' x))
    rw [hf x (by omega) (by omega)]
    exact ih (x + 1) _ (fun y h1 h2 => hf y (by omega) (by omega))
/-- so stands on the right side of e -/
def rs (g : Bool) (e : Int) (so : Nat) : Prop := if g = true then e ≤ so else (so : Int) ≤ e
theorem bo_int (g : Bool) (u v : Nat) : ((bo g u v : Nat) : Int) = bI g u v := by
  unfold bo bI
  split <;> omega
theorem xf_int {g : Bool} {f : Nat → Nat} {e : Int} : ∀ d x so, rs g e so → (xf g f d x so : Int) = bI g so (xI g f e d x) := by
  intro d
  induction d with
  | zero =>
    intro x so h
    show (so : Int) = bI g so e
    unfold rs at h
    unfold bI
    split at h <;> split <;> first | omega | contradiction
  | succ d ih =>
    intro x so h
    show (xf g f d (x + 1) (bo g so (f x)) : Int) = bI g so (bI g (f x) (xI g f e d (x + 1)))
    rw [ih (x + 1) _ (by unfold rs bo at *; split at h <;> split <;> first | omega | contradiction), bo_int]
    unfold bI
    split <;> omega
/-- no step makes it worse -/
theorem xf_so {g : Bool} {f : Nat → Nat} : ∀ d x so, if g = true then so ≤ xf g f d x so else xf g f d x so ≤ so := by
  intro d
  induction d with
  | zero => intro x so; show (if g = true then so ≤ so else so ≤ so); split <;> omega
  | succ d ih =>
    intro x so
    have h := ih (x + 1) (bo g so (f x))
    show (if g = true then so ≤ xf g f d (x + 1) (bo g so (f x)) else xf g f d (x + 1) (bo g so (f x)) ≤ so)
    generalize xf g f d (x + 1) (bo g so (f x)) = w at h ⊢
    unfold bo at h
    by_cases c : g = true
    · rw [if_pos c] at h ⊢; rw [if_pos c] at h; omega
    · rw [if_neg c] at h ⊢; rw [if_neg c] at h; omega
/-- what is chosen: the first that is worth the best, if that is better than so -/
theorem xc_fs {g : Bool} {f : Nat → Nat} : ∀ d x so ch, xc g f d x so ch = if xf g f d x so = so then ch else fs f (xf g f d x so) d x := by
  intro d
  induction d with
  | zero => intro x so ch; show ch = if so = so then ch else _; rw [if_pos rfl]
  | succ d ih =>
    intro x so ch
    show (if btr g (f x) so = true then xc g f d (x + 1) (f x) x else xc g f d (x + 1) so ch) = if xf g f d (x + 1) (bo g so (f x)) = so then ch else (if f x = xf g f d (x + 1) (bo g so (f x)) then x else fs f (xf g f d (x + 1) (bo g so (f x))) d (x + 1))
    have hso := xf_so (g := g) (f := f) d (x + 1) (bo g so (f x))
    by_cases c : btr g (f x) so = true
    · have hb : bo g so (f x) = f x := by
        unfold btr at c
        unfold bo
        by_cases cg : g = true
        · rw [if_pos cg] at c ⊢; have := of_decide_eq_true c; omega
        · rw [if_neg cg] at c ⊢; have := of_decide_eq_true c; omega
      rw [hb] at hso ⊢
      rw [if_pos c, ih (x + 1) (f x) x]
      have hne : xf g f d (x + 1) (f x) ≠ so := by
        generalize xf g f d (x + 1) (f x) = w at hso ⊢
        unfold btr at c
        by_cases cg : g = true
        · rw [if_pos cg] at c hso; have := of_decide_eq_true c; omega
        · rw [if_neg cg] at c hso; have := of_decide_eq_true c; omega
      rw [if_neg hne]
      by_cases c2 : xf g f d (x + 1) (f x) = f x
      · rw [if_pos c2, if_pos c2.symm]
      · rw [if_neg c2, if_neg (fun q => c2 q.symm)]
    · have hb : bo g so (f x) = so := by
        unfold btr at c
        unfold bo
        by_cases cg : g = true
        · rw [if_pos cg] at c ⊢
          have : ¬ so < f x := fun q => c (decide_eq_true q)
          omega
        · rw [if_neg cg] at c ⊢
          have : ¬ f x < so := fun q => c (decide_eq_true q)
          omega
      rw [hb] at hso ⊢
      rw [if_neg c, ih (x + 1) so ch]
      by_cases c2 : xf g f d (x + 1) so = so
      · rw [if_pos c2, if_pos c2]
      · rw [if_neg c2, if_neg c2, if_neg]
        intro q
        generalize xf g f d (x + 1) so = w at *
        unfold btr at c
        by_cases cg : g = true
        · rw [if_pos cg] at c hso
          exact c (decide_eq_true (by omega))
        · rw [if_neg cg] at c hso
          exact c (decide_eq_true (by omega))
/-! the numbers of a duel: odds of one, odds of the other; 0 1 sums, 2 3 bests, 4 leads, 5 sooner, 6 7 asked -/
def eN (D : DD) (x y : Nat) : Nat := if x = 0 then 0 else if y = 0 then 1000000 else if D.2.2 1 + y < D.2.2 0 + x ∨ (D.2.2 0 + x = D.2.2 1 + y ∧ D.2.2 4 = 1) then 1000000 else 0
def lA (D : DD) (v x : Nat) : Nat := mixN (D.1 x) (eN D x v) (eN D (D.2.2 2) v)
def lB (D : DD) (u y : Nat) : Nat := mixN (D.2.1 y) (eN D u y) (eN D u (D.2.2 3))
def cA (D : DD) (c v x : Nat) : Nat := if c = 0 then lA D v x else xf true (lA D v) (40 - x) (x + 1) (lA D v x)
def cB (D : DD) (d u y : Nat) : Nat := if d = 0 then lB D u y else xf false (lB D u) (40 - y) (y + 1) (lB D u y)
def fst (D : DD) (a b : Nat) : Bool := decide (a < b ∨ (a = b ∧ D.2.2 5 = 1))
def tV (D : DD) (c d a b : Nat) : Nat := if fst D a b = true then mixN (D.1 a) (cB D d a b) (cB D d (D.2.2 2) b) else mixN (D.2.1 b) (cA D c b a) (cA D c (D.2.2 3) a)
def dVf (D : DD) : Nat → Nat → Nat → Nat → Nat → Nat
  | 0, c, d, a, b => tV D c d a b
  | k + 1, c, d, a, b => if fst D a b = true then (if c = 0 then tV D c d a b else xf true (fun x => dVf D k (c - 1) d x b) (40 - a) (a + 1) (tV D c d a b)) else (if d = 0 then tV D c d a b else xf false (fun y => dVf D k c (d - 1) a y) (40 - b) (b + 1) (tV D c d a b))
def dV (D : DD) (c d a b : Nat) : Nat := dVf D (c + d) c d a b
def dC (D : DD) (c d a b : Nat) : Nat := if fst D a b = true then (if c = 0 then 0 else xc true (fun x => dV D (c - 1) d x b) (40 - a) (a + 1) (tV D c d a b) 0) else (if d = 0 then 0 else xc false (fun y => dV D c (d - 1) a y) (40 - b) (b + 1) (tV D c d a b) 0)
theorem dV_eq (D : DD) (c d a b : Nat) : dV D c d a b = if fst D a b = true then (if c = 0 then tV D c d a b else xf true (fun x => dV D (c - 1) d x b) (40 - a) (a + 1) (tV D c d a b)) else (if d = 0 then tV D c d a b else xf false (fun y => dV D c (d - 1) a y) (40 - b) (b + 1) (tV D c d a b)) := by
  unfold dV
  by_cases h : c + d = 0
  · rw [h]
    show tV D c d a b = _
    rw [if_pos (show c = 0 by omega), if_pos (show d = 0 by omega)]
    split <;> rfl
  · obtain ⟨k, hk⟩ : ∃ k, c + d = k + 1 := ⟨c + d - 1, by omega⟩
    rw [hk]
    show (if fst D a b = true then (if c = 0 then tV D c d a b else xf true (fun x => dVf D k (c - 1) d x b) (40 - a) (a + 1) (tV D c d a b)) else (if d = 0 then tV D c d a b else xf false (fun y => dVf D k c (d - 1) a y) (40 - b) (b + 1) (tV D c d a b))) = _
    by_cases hc : c = 0
    · rw [if_pos hc, if_pos hc]
      by_cases hd : d = 0
      · rw [if_pos hd, if_pos hd]
      · rw [if_neg hd, if_neg hd, show c + (d - 1) = k by omega]
    · rw [if_neg hc, if_neg hc, show c - 1 + d = k by omega]
      by_cases hd : d = 0
      · rw [if_pos hd, if_pos hd]
      · rw [if_neg hd, if_neg hd, show c + (d - 1) = k by omega]
/-- in bounds -/
def DW (D : DD) : Prop := (∀ x, x ≤ 40 → D.1 x ≤ 1000 ∧ D.2.1 x ≤ 1000) ∧ D.2.2 0 ≤ 80 ∧ D.2.2 1 ≤ 80 ∧ D.2.2 2 < D.2.2 6 ∧ D.2.2 3 < D.2.2 7 ∧ D.2.2 6 ≤ 40 ∧ D.2.2 7 ≤ 40 ∧ D.2.2 4 ≤ 1 ∧ D.2.2 5 ≤ 1
theorem eN_le (D : DD) (x y : Nat) : eN D x y ≤ 1000000 := by
  unfold eN
  split
  · omega
  · split
    · omega
    · split <;> omega
theorem lA_le {D : DD} (h : DW D) {v x : Nat} (hx : x ≤ 40) : lA D v x ≤ 1000000 := mixN_le (h.1 x hx).1 (eN_le _ _ _) (eN_le _ _ _)
theorem lB_le {D : DD} (h : DW D) {v x : Nat} (hx : x ≤ 40) : lB D v x ≤ 1000000 := mixN_le (h.1 x hx).2 (eN_le _ _ _) (eN_le _ _ _)
theorem cA_le {D : DD} (h : DW D) {c v x : Nat} (hx : x ≤ 40) : cA D c v x ≤ 1000000 := by
  unfold cA
  split
  · exact lA_le h hx
  · exact xf_le _ _ _ (lA_le h hx) (fun y h1 h2 => lA_le h (by omega))
theorem cB_le {D : DD} (h : DW D) {c v x : Nat} (hx : x ≤ 40) : cB D c v x ≤ 1000000 := by
  unfold cB
  split
  · exact lB_le h hx
  · exact xf_le _ _ _ (lB_le h hx) (fun y h1 h2 => lB_le h (by omega))
theorem tV_le {D : DD} (h : DW D) {c d a b : Nat} (ha : a ≤ 40) (hb : b ≤ 40) : tV D c d a b ≤ 1000000 := by
  unfold tV
  split
  · exact mixN_le (h.1 a ha).1 (cB_le h hb) (cB_le h hb)
  · exact mixN_le (h.1 b hb).2 (cA_le h ha) (cA_le h ha)
theorem dVf_le {D : DD} (h : DW D) : ∀ k c d a b, a ≤ 40 → b ≤ 40 → dVf D k c d a b ≤ 1000000 := by
  intro k
  induction k with
  | zero => intro c d a b ha hb; exact tV_le h ha hb
  | succ k ih =>
    intro c d a b ha hb
    show (if fst D a b = true then (if c = 0 then tV D c d a b else xf true (fun x => dVf D k (c - 1) d x b) (40 - a) (a + 1) (tV D c d a b)) else (if d = 0 then tV D c d a b else xf false (fun y => dVf D k c (d - 1) a y) (40 - b) (b + 1) (tV D c d a b))) ≤ _
    split
    · split
      · exact tV_le h ha hb
      · exact xf_le _ _ _ (tV_le h ha hb) (fun y h1 h2 => ih _ _ _ _ (by omega) hb)
    · split
      · exact tV_le h ha hb
      · exact xf_le _ _ _ (tV_le h ha hb) (fun y h1 h2 => ih _ _ _ _ ha (by omega))
theorem dV_le {D : DD} (h : DW D) {c d a b : Nat} (ha : a ≤ 40) (hb : b ≤ 40) : dV D c d a b ≤ 1000000 := dVf_le h _ c d a b ha hb
/-- where a cell lies -/
def cl (c d a b : Nat) : Nat := 1681 * (3 * c + d) + 41 * a + b
theorem cl_lt {c d a b : Nat} (hc : c ≤ 2) (hd : d ≤ 2) (ha : a ≤ 40) (hb : b ≤ 40) : cl c d a b < 15129 := by unfold cl; omega
