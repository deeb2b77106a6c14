/-! ===== layer B: enters: tables ===== -/
theorem tabS_congr {ld od ld' od' : Nat → Int32} {f f' : Nat} {x : Int32} : ∀ m k, 1 ≤ k → (∀ i, i < k + m → ld' (f' + i) = ld (f + i) ∧ od' (f' + i) = od (f + i)) → tabS ld' od' f' x m k = tabS ld od f x m k := by
  intro m
  induction m with
  | zero => intro k _ _; rfl
  | succ m ih =>
    intro k hk h
    have h1 := h k (by omega)
    have h0 := h (k - 1) (by omega)
    rw [show f' + (k - 1) = f' + k - 1 by omega, show f + (k - 1) = f + k - 1 by omega] at h0
    show (if x ≤ ld' (f' + k) then od' (f' + k - 1) - (od' (f' + k - 1) - od' (f' + k)) * (x - ld' (f' + k - 1)) / (ld' (f' + k) - ld' (f' + k - 1)) else tabS ld' od' f' x m (k + 1)) = (if x ≤ ld (f + k) then od (f + k - 1) - (od (f + k - 1) - od (f + k)) * (x - ld (f + k - 1)) / (ld (f + k) - ld (f + k - 1)) else tabS ld od f x m (k + 1))
    rw [h1.1, h1.2, h0.1, h0.2, ih (k + 1) (by omega) (fun i hi => h i (by omega))]
theorem tabO_congr {ld od ld' od' : Nat → Int32} {f f' np : Nat} {x : Int32} (hnp : 1 ≤ np) (h : ∀ i, i < np → ld' (f' + i) = ld (f + i) ∧ od' (f' + i) = od (f + i)) : tabO np ld' od' f' x = tabO np ld od f x := by
  unfold tabO
  have h0 := h 0 (by omega)
  rw [Nat.add_zero, Nat.add_zero] at h0
  rw [h0.1, h0.2, tabS_congr (np - 1) 1 (by omega) (fun i hi => h i (by omega))]
theorem tabS_in {ld od : Nat → Int32} {f : Nat} {x : Int32} : ∀ m k, (∃ j, k ≤ j ∧ j < k + m ∧ x ≤ ld (f + j)) → tabS ld od f x (m + 1) k = tabS ld od f x m k := by
  intro m
  induction m with
  | zero => intro k ⟨j, h1, h2, _⟩; omega
  | succ m ih =>
    intro k ⟨j, h1, h2, h3⟩
    show (if x ≤ ld (f + k) then _ else tabS ld od f x (m + 1) (k + 1)) = (if x ≤ ld (f + k) then _ else tabS ld od f x m (k + 1))
    by_cases c : x ≤ ld (f + k)
    · rw [if_pos c, if_pos c]
    · rw [if_neg c, if_neg c]
      refine ih (k + 1) ⟨j, ?_, by omega, h3⟩
      rcases Nat.lt_or_ge k j with q | q
      · exact q
      · exfalso; rw [show j = k by omega] at h3; exact c h3
theorem tabS_out {ld od : Nat → Int32} {f : Nat} {x : Int32} : ∀ m k, (∀ j, k ≤ j → j < k + m → ¬ x ≤ ld (f + j)) → tabS ld od f x (m + 1) k = (if x ≤ ld (f + (k + m)) then od (f + (k + m) - 1) - (od (f + (k + m) - 1) - od (f + (k + m))) * (x - ld (f + (k + m) - 1)) / (ld (f + (k + m)) - ld (f + (k + m) - 1)) else 0) := by
  intro m
  induction m with
  | zero => intro k _; rfl
  | succ m ih =>
    intro k h
    show (if x ≤ ld (f + k) then _ else tabS ld od f x (m + 1) (k + 1)) = _
    rw [if_neg (h k (by omega) (by omega)), ih (k + 1) (fun j h1 h2 => h j (by omega) (by omega)), show k + 1 + m = k + (m + 1) by omega]
/-- ODDS by the first i points, nothing behind them -/
def tabP (i : Nat) (ld od : Nat → Int32) (f : Nat) (x : Int32) : Int32 := if i = 0 then 0 else tabO i ld od f x
/-- the loads of the first i points rise, all within -/
def PtR (i : Nat) (ld od : Nat → Int32) (f : Nat) : Prop := (∀ j, j < i → Rg (ld (f + j)) 1 40 ∧ Rg (od (f + j)) 0 1000) ∧ (∀ j, j + 1 < i → (ld (f + j)).toInt < (ld (f + j + 1)).toInt ∧ (od (f + j + 1)).toInt ≤ (od (f + j)).toInt)
theorem PtR.mono {i : Nat} {ld od : Nat → Int32} {f : Nat} (h : PtR i ld od f) : ∀ a b, a ≤ b → b < i → (ld (f + a)).toInt ≤ (ld (f + b)).toInt := by
  intro a b
  induction b with
  | zero => intro h1 h2; rw [show a = 0 by omega]; exact Int.le_refl _
  | succ b ih =>
    intro h1 h2
    by_cases c : a = b + 1
    · rw [c]; exact Int.le_refl _
    · have h3 := ih (by omega) (by omega)
      have h4 := (h.2 b h2).1
      rw [show f + b + 1 = f + (b + 1) by omega] at h4
      omega
theorem tabP_step {i : Nat} {ld od : Nat → Int32} {f : Nat} (h : PtR (i + 1) ld od f) (x : Int32) : tabP (i + 1) ld od f x = (if i = 0 then (if x ≤ ld f then od f else 0) else if x ≤ ld (f + (i - 1)) then tabP i ld od f x else if x ≤ ld (f + i) then od (f + (i - 1)) - (od (f + (i - 1)) - od (f + i)) * (x - ld (f + (i - 1))) / (ld (f + i) - ld (f + (i - 1))) else 0) := by
  unfold tabP tabO
  rw [if_neg (by omega)]
  by_cases c : i = 0
  · subst c
    rfl
  · rw [if_neg c, if_neg c, show i + 1 - 1 = (i - 1) + 1 by omega]
    have hm := h.mono
    by_cases c1 : x ≤ ld (f + (i - 1))
    · rw [if_pos c1]
      by_cases c2 : x ≤ ld f
      · rw [if_pos c2, if_pos c2]
      · rw [if_neg c2, if_neg c2]
        have hi1 : i ≠ 1 := fun q => c2 (by rw [q] at c1; exact c1)
        exact tabS_in (i - 1) 1 ⟨i - 1, by omega, by omega, c1⟩
    · rw [if_neg c1]
      have hall : ∀ j, j ≤ i - 1 → ¬ x ≤ ld (f + j) := fun j hj q => by
        apply c1
        rw [le32] at q ⊢
        have := hm j (i - 1) hj (by omega)
        omega
      rw [if_neg (show ¬ x ≤ ld f from hall 0 (by omega)), tabS_out (i - 1) 1 (fun j h1 h2 => hall j (by omega)), show 1 + (i - 1) = i by omega, show f + i - 1 = f + (i - 1) by omega]
theorem tabP_hi {i : Nat} {ld od : Nat → Int32} {f : Nat} (h : PtR i ld od f) (hi : 1 ≤ i) {x : Int32} (hx : ¬ x ≤ ld (f + (i - 1))) : tabP i ld od f x = 0 := by
  obtain ⟨j, rfl⟩ : ∃ j, i = j + 1 := ⟨i - 1, by omega⟩
  rw [tabP_step h]
  by_cases c : j = 0
  · subst c
    rw [if_pos rfl, if_neg (show ¬ x ≤ ld f from hx)]
  · rw [if_neg c]
    rw [show j + 1 - 1 = j by omega] at hx
    rw [if_neg, if_neg hx]
    intro q
    apply hx
    rw [le32] at q ⊢
    have := h.mono (j - 1) j (by omega) (by omega)
    omega
/-! the class's rows -/
theorem clear_L {k t : Nat} (ht : t < 3) : ∀ d x n S, x + d = 41 → d + 1 ≤ n → ∃ S', m_X3_clearTable_L2 n S k (nI t) (nI x) = some S' ∧ S'.1 = S.1 ∧ S'.2.2 = S.2.2 ∧ (∀ a, a ≠ 5 + 3 * k → S'.2.1 a = S.2.1 a) ∧ (∀ y, S'.2.1 (5 + 3 * k) y = if 41 * t + x ≤ y ∧ y < 41 * t + 41 then 0 else S.2.1 (5 + 3 * k) y) := by
  intro d
  induction d with
  | zero =>
    intro x n S hx hn
    obtain ⟨m, rfl⟩ : ∃ m, n = m + 1 := ⟨n - 1, by omega⟩
    refine ⟨S, ?_, rfl, rfl, fun _ _ => rfl, fun y => by rw [if_neg (by omega)]⟩
    unfold m_X3_clearTable_L2
    rw [lit32 40, if_pos (by rw [ltN (by omega) (by omega)]; omega)]
  | succ d ih =>
    intro x n S hx hn
    obtain ⟨m, rfl⟩ : ∃ m, n = m + 1 := ⟨n - 1, by omega⟩
    obtain ⟨S', e1, e2, e3, e4, e5⟩ := ih (x + 1) m (sA S (5 + 3 * k) (41 * t + x) 0) (by omega) (by omega)
    refine ⟨S', ?_, e2, e3, fun a ha => (e4 a ha).trans (sA_row ha), fun y => ?_⟩
    · unfold m_X3_clearTable_L2
      simp only [nmE]
      rw [lit32 40, if_neg (by rw [ltN (by omega) (by omega)]; omega), show nI t * 41 + nI x = nI (41 * t + x) by rw [lit32 41, pk_mul, nI_add, Nat.mul_comm], ckN (by omega) (by omega), clN (by omega), s1]
      exact e1
    · rw [e5 y, sA_21, if_pos rfl]
      by_cases c : y = 41 * t + x
      · rw [if_pos c, if_neg (by omega), if_pos (by omega)]
      · rw [if_neg c]
        by_cases c2 : 41 * t + (x + 1) ≤ y ∧ y < 41 * t + 41
        · rw [if_pos c2, if_pos (by omega)]
        · rw [if_neg c2, if_neg (by omega)]
theorem spread_L {k t a b : Nat} {u v : Int32} (ht : t < 3) (hab : a < b) (hb : b ≤ 40) : ∀ d x n S, x + d = b + 1 → a < x → d + 1 ≤ n → ∃ S', m_X3_spread_L17 n S k (nI t) (nI a) u (nI b) v (nI b - nI a) (nI x) = some S' ∧ S'.1 = S.1 ∧ S'.2.2 = S.2.2 ∧ (∀ r, r ≠ 5 + 3 * k → S'.2.1 r = S.2.1 r) ∧ (∀ y, S'.2.1 (5 + 3 * k) y = if 41 * t + x ≤ y ∧ y ≤ 41 * t + b then u - (u - v) * (nI (y - 41 * t) - nI a) / (nI b - nI a) else S.2.1 (5 + 3 * k) y) := by
  intro d
  induction d with
  | zero =>
    intro x n S hx hax hn
    obtain ⟨m, rfl⟩ : ∃ m, n = m + 1 := ⟨n - 1, by omega⟩
    refine ⟨S, ?_, rfl, rfl, fun _ _ => rfl, fun y => by rw [if_neg (by omega)]⟩
    unfold m_X3_spread_L17
    rw [if_pos (by rw [ltN (by omega) (by omega)]; omega)]
  | succ d ih =>
    intro x n S hx hax hn
    obtain ⟨m, rfl⟩ : ∃ m, n = m + 1 := ⟨n - 1, by omega⟩
    obtain ⟨S', e1, e2, e3, e4, e5⟩ := ih (x + 1) m (sA S (5 + 3 * k) (41 * t + x) (u - (u - v) * (nI x - nI a) / (nI b - nI a))) (by omega) (by omega) (by omega)
    refine ⟨S', ?_, e2, e3, fun a ha => (e4 a ha).trans (sA_row ha), fun y => ?_⟩
    · unfold m_X3_spread_L17
      simp only [nmE]
      have hd : ¬ nI b - nI a = 0 := by
        rw [subN (by omega), show (0 : Int32) = nI 0 from rfl, eqN (by omega) (by omega)]; omega
      rw [if_neg (by rw [ltN (by omega) (by omega)]; omega), lit32 40, if_neg (by rw [ltN (by omega) (by omega)]; omega), show nI t * 41 + nI x = nI (41 * t + x) by rw [lit32 41, pk_mul, nI_add, Nat.mul_comm], ckN (by omega) (by omega), clN (by omega), s1]
      unfold ckd
      rw [if_neg hd]
      exact e1
    · rw [e5 y, sA_21, if_pos rfl]
      by_cases c : y = 41 * t + x
      · rw [if_pos c, if_neg (by omega), if_pos (by omega), c, show 41 * t + x - 41 * t = x by omega]
      · rw [if_neg c]
        by_cases c2 : 41 * t + (x + 1) ≤ y ∧ y ≤ 41 * t + b
        · rw [if_pos c2, if_pos (by omega)]
        · rw [if_neg c2, if_neg (by omega)]
/-- what reading leaves: the class -/
def FrP (k : Nat) (S S' : St) : Prop := (∀ i, i ≠ 2 → i ≠ 3 → i ≠ 10 + 2 * k → i ≠ 11 + 2 * k → S'.1 i = S.1 i) ∧ (∀ a, a ≠ 5 + 3 * k → a ≠ 6 + 3 * k → S'.2.1 a = S.2.1 a) ∧ S'.2.2 = S.2.2
theorem FrP.rfl {k : Nat} (S : St) : FrP k S S := ⟨fun _ _ _ _ _ => Eq.refl _, fun _ _ _ => Eq.refl _, Eq.refl _⟩
theorem FrP.trans {k : Nat} {S S' S2 : St} (h : FrP k S S') (g : FrP k S' S2) : FrP k S S2 := ⟨fun i a b c d => (g.1 i a b c d).trans (h.1 i a b c d), fun i a b => (g.2.1 i a b).trans (h.2.1 i a b), g.2.2.trans h.2.2⟩
theorem P23.fr {k : Nat} {S S' : St} (h : P23 S S') : FrP k S S' := ⟨fun i a b _ _ => h.1 i a b, fun a _ _ => by rw [h.2], by rw [h.2]⟩
/-- what reading leaves: the reference -/
def FrQ (T T' : St) : Prop := (∀ i, i ≠ 19 → i ≠ 21 → i ≠ 22 → i ≠ 23 → T'.1 i = T.1 i) ∧ (∀ a, a < 24 ∨ 27 < a → T'.2.1 a = T.2.1 a) ∧ T'.2.2 = T.2.2
theorem FrQ.rfl (T : St) : FrQ T T := ⟨fun _ _ _ _ _ => Eq.refl _, fun _ _ => Eq.refl _, Eq.refl _⟩
theorem FrQ.trans {S S' S2 : St} (h : FrQ S S') (g : FrQ S' S2) : FrQ S S2 := ⟨fun i a b c d => (g.1 i a b c d).trans (h.1 i a b c d), fun i a => (g.2.1 i a).trans (h.2.1 i a), g.2.2.trans h.2.2⟩
theorem Q19.fr {T T' : St} (h : Q19 T T') : FrQ T T' := ⟨fun i a b _ _ => h.1 i a b, fun a _ => by rw [h.2], by rw [h.2]⟩
/-- a table's own frames -/
def FtS (k t : Nat) (S S' : St) : Prop := (∀ i, i ≠ 2 → i ≠ 3 → S'.1 i = S.1 i) ∧ (∀ a, a ≠ 5 + 3 * k → S'.2.1 a = S.2.1 a) ∧ S'.2.2 = S.2.2 ∧ ∀ y, (y < 41 * t ∨ 41 * t + 41 ≤ y) → S'.2.1 (5 + 3 * k) y = S.2.1 (5 + 3 * k) y
def FtT (t : Nat) (T T' : St) : Prop := (∀ i, i ≠ 19 → i ≠ 21 → T'.1 i = T.1 i) ∧ (∀ a, a < 24 ∨ 26 < a → T'.2.1 a = T.2.1 a) ∧ T'.2.2 = T.2.2 ∧ (∀ y, y ≠ t → T'.2.1 24 y = T.2.1 24 y) ∧ ∀ y, (y < 6 * t ∨ 6 * t + 6 ≤ y) → T'.2.1 25 y = T.2.1 25 y ∧ T'.2.1 26 y = T.2.1 26 y
theorem FtS.trans {k t : Nat} {S S' S2 : St} (h : FtS k t S S') (g : FtS k t S' S2) : FtS k t S S2 := ⟨fun i a b => (g.1 i a b).trans (h.1 i a b), fun i a => (g.2.1 i a).trans (h.2.1 i a), g.2.2.1.trans h.2.2.1, fun y hy => (g.2.2.2 y hy).trans (h.2.2.2 y hy)⟩
theorem FtT.trans {t : Nat} {S S' S2 : St} (h : FtT t S S') (g : FtT t S' S2) : FtT t S S2 := ⟨fun i a b => (g.1 i a b).trans (h.1 i a b), fun i a => (g.2.1 i a).trans (h.2.1 i a), g.2.2.1.trans h.2.2.1, fun y hy => (g.2.2.2.1 y hy).trans (h.2.2.2.1 y hy), fun y hy => ⟨((g.2.2.2.2 y hy).1).trans (h.2.2.2.2 y hy).1, ((g.2.2.2.2 y hy).2).trans (h.2.2.2.2 y hy).2⟩⟩
theorem P23.ft {k t : Nat} {S S' : St} (h : P23 S S') : FtS k t S S' := ⟨h.1, fun a _ => by rw [h.2], by rw [h.2], fun y _ => by rw [h.2]⟩
theorem Q19.ft {t : Nat} {T T' : St} (h : Q19 T T') : FtT t T T' := ⟨h.1, fun a _ => by rw [h.2], by rw [h.2], fun y _ => by rw [h.2], fun y _ => by rw [h.2]; exact ⟨Eq.refl _, Eq.refl _⟩⟩
theorem FtS.fr {k t : Nat} {S S' : St} (h : FtS k t S S') : FrP k S S' := ⟨fun i a b _ _ => h.1 i a b, fun a b _ => h.2.1 a b, h.2.2.1⟩
theorem FtT.fr {t : Nat} {T T' : St} (h : FtT t T T') : FrQ T T' := ⟨fun i a b _ _ => h.1 i a b, fun a b => h.2.1 a (by omega), h.2.2.1⟩
/-- a point's numbers, and on -/
def Cpt (n : Nat) (S : St) (k : Nat) (t x3 x4 x5 : Int32) : Option St := (m_X7_readNumber n S (x3 + 1) 40).bind (fun r6 => (m_X7_readSign r6.2 61).bind (fun r8 => (m_X7_readNumber n r8 0 x4).bind (fun r10 => if (r10.2.1 3) < 0 then (((if x5 = 0 then (some r10.1) else (some x4) : Option (Int32))).bind (fun q14 => (m_X3_spread n r10.2 k t x3 q14 r6.1 r10.1).bind (fun r16 => m_X7_readTable_L15 n r16 k t r6.1 r10.1 (x5 + 1)))) else (some r10.2))))
theorem readT0 (n : Nat) (S : St) (k : Nat) (t x3 x4 : Int32) (h : S.1 3 = -1) : m_X7_readTable_L15 (n + 1) S k t x3 x4 0 = Cpt n S k t x3 x4 0 := by
  conv => lhs; unfold m_X7_readTable_L15
  rw [if_neg (by decide), h, if_neg (by decide), if_pos (by decide)]
  rfl
theorem readT1 (n : Nat) (S : St) (k i : Nat) (t x3 x4 : Int32) (h : S.1 3 = -1) (hi : 1 ≤ i) (hi6 : i < 6) : m_X7_readTable_L15 (n + 1) S k t x3 x4 (nI i) = if (S.1 1) ≤ (S.1 2) then (some S) else (ck (S.1 2) 240 (if (S.2.1 2 (S.1 2).toNatClampNeg) = 44 then Cpt n (sI S 2 ((S.1 2) + 1)) k t x3 x4 (nI i) else (some S))) := by
  conv => lhs; unfold m_X7_readTable_L15
  simp only [nmE]
  rw [lit32 6, if_neg (show ¬ nI 6 ≤ nI i by rw [leN (by omega) (by omega)]; omega), h, if_neg (show ¬ (0 : Int32) ≤ -1 by decide), if_neg (show ¬ nI i ≤ 0 by rw [show (0 : Int32) = nI 0 from rfl, leN (by omega) (by omega)]; omega)]
  rfl
theorem readT6 (n : Nat) (S : St) (k : Nat) (t x3 x4 : Int32) : m_X7_readTable_L15 (n + 1) S k t x3 x4 (nI 6) = some S := by
  unfold m_X7_readTable_L15
  rw [if_pos (by decide)]
/-- what is read of a table -/
def TabK (k t : Nat) (S T : St) : Prop := ∃ np, 1 ≤ np ∧ np ≤ 6 ∧ T.2.1 24 t = nI np ∧ PtR np (T.2.1 25) (T.2.1 26) (6 * t) ∧ ∀ x, 1 ≤ x → x ≤ 40 → S.2.1 (5 + 3 * k) (41 * t + x) = tabO np (T.2.1 25) (T.2.1 26) (6 * t) (nI x)
theorem tab_same {len k t : Nat} (ht : t < 3) : ∀ d i n n' at' S T, i + d = 6 → 1 ≤ d → 60 + d ≤ n → 60 + d ≤ n' → GP len at' S T → PtR i (T.2.1 25) (T.2.1 26) (6 * t) → (∀ x, 1 ≤ x → x ≤ 40 → S.2.1 (5 + 3 * k) (41 * t + x) = tabP i (T.2.1 25) (T.2.1 26) (6 * t) (nI x)) →
    ∀ x3 x4, x3 = (if i = 0 then 0 else T.2.1 25 (6 * t + (i - 1))) → x4 = (if i = 0 then 1000 else T.2.1 26 (6 * t + (i - 1))) →
    ∃ S' T', Cpt n S k (nI t) x3 x4 (nI i) = some S' ∧ FtS k t S S' ∧ FtT t T T' ∧
      ((∃ at2, m_X9_takesTable_L4 n' T (nI t) (nI i) 1 = some (1, T') ∧ GP len at2 S' T' ∧ TabK k t S' T') ∨
       (∃ p, m_X9_takesTable_L4 n' T (nI t) (nI i) 1 = some (0, T') ∧ DP len p S' ∧ T'.1 19 = nI p ∧ p ≤ 240) ∨
       (∃ p, m_X9_takesTable_L4 n' T (nI t) (nI i) 1 = some (0, T') ∧ S'.1 3 = nI p ∧ T'.1 19 = nI p ∧ p ≤ 240)) := by
  intro d
  induction d with
  | zero => intro i n n' at' S T _ h; omega
  | succ d ih =>
    intro i n n' at' S T hid _ hn hn' hG hP hTab x3 x4 hx3 hx4
    obtain ⟨m', rfl⟩ : ∃ m, n' = m + 1 := ⟨n' - 1, by omega⟩
    have hi : i < 6 := by omega
    -- the load before, the odds before
    obtain ⟨a, ha, ea, ea2⟩ : ∃ a : Nat, a ≤ 40 ∧ x3 = nI a ∧ (if nI i = 0 then (some 1) else (ck (((6 * nI t) + nI i) - 1) 18 (some ((T.2.1 25 (((6 * nI t) + nI i) - 1).toNatClampNeg) + 1))) : Option (Int32)) = some (nI (a + 1)) := by
      rw [if0N (by omega)]
      by_cases c : i = 0
      · rw [if_pos c] at hx3 ⊢
        exact ⟨0, by omega, hx3, rfl⟩
      · rw [if_neg c] at hx3 ⊢
        obtain ⟨a, ha1, ha, ea⟩ := (hP.1 (i - 1) (by omega)).1.nat1 (n := 40)
        refine ⟨a, ha, hx3.trans ea, ?_⟩
        rw [show 6 * nI t + nI i - 1 = nI (6 * t + (i - 1)) by rw [lit32 6, lit32 1, pk_mul, nI_add, subN (by omega)]; congr 1; omega, ckN (by omega) (by omega), clN (by omega), ea, s1]
    obtain ⟨b, hb, eb, eb2⟩ : ∃ b : Nat, b ≤ 1000 ∧ x4 = nI b ∧ ∀ X : St, (∀ j, j < i → X.2.1 26 (6 * t + j) = T.2.1 26 (6 * t + j)) → (if nI i = 0 then (some 1000) else (ck (nI (6 * t + i) - 1) 18 (some (X.2.1 26 (nI (6 * t + i) - 1).toNatClampNeg))) : Option (Int32)) = some (nI b) := by
      by_cases c : i = 0
      · rw [if_pos c] at hx4
        refine ⟨1000, by omega, hx4, fun X _ => ?_⟩
        rw [if0N (by omega), if_pos c]
        rfl
      · rw [if_neg c] at hx4
        obtain ⟨a, ha, ea⟩ := (hP.1 (i - 1) (by omega)).2.nat (n := 1000)
        refine ⟨a, ha, hx4.trans ea, fun X hX => ?_⟩
        rw [if0N (by omega), if_neg c, show nI (6 * t + i) - 1 = nI (6 * t + (i - 1)) by rw [lit32 1, subN (by omega)]; congr 1; omega, ckN (by omega) (by omega), clN (by omega), hX (i - 1) (by omega), ea]
    have hix : (6 : Int32) * nI t + nI i = nI (6 * t + i) := by rw [lit32 6, pk_mul, nI_add]
    subst ea
    subst eb
    unfold Cpt m_X9_takesTable_L4
    rw [if_neg (show ¬ (1 : Int32) = 0 by decide), ea2, s1]
    simp only [Option.bind_some, nmE]
    have rfl40 : (40 : Int32) = nI 40 := rfl
    rcases tnum_same (lo := a + 1) (hi := 40) (n := n) (n' := m') hG (by omega) (by omega) (by omega) (by omega) with ⟨S1, T1, at2, v, r1, r2, r3, r4, r5, r6, r7, r8, r9⟩ | ⟨S1, T1, v, p, r1, r2, r3, r4, r5, r6, r7, r8, r9⟩ | ⟨S1, T1, v, p, r1, r2, r3, r4, r5, r6, r7⟩
    · rw [rfl40, r1, r2]
      simp only [Option.bind_some, b10, if_false]
      rw [hix, ckN (by omega) (by omega), clN (by omega), r4]
      have hG1 : GP len at2 S1 (sA T1 25 (6 * t + i) (nI v)) := r3
      rcases sign_same hG1 61 with ⟨S2, T2, q1, q2, q3, q4, q5, q6⟩ | ⟨S2, q1, q2, q3, q4⟩
      · rw [q1, q2]
        simp only [Option.bind_some, b10, if_false]
        have f25 : FtT t T1 (sA T1 25 (6 * t + i) (nI v)) := ⟨fun _ _ _ => rfl, fun a ha => sA_row (by omega), rfl, fun y _ => by rw [sA_row (by omega)], fun y hy => ⟨sA_ne (by omega), by rw [sA_row (by omega)]⟩⟩
        have hT2 : FtT t T T2 := (r8.ft.trans f25).trans q5.ft
        have hS2 : FtS k t S S2 := r7.ft.trans q4.ft
        have e26 : T2.2.1 26 = T.2.1 26 := by rw [q5.2, sA_row (by omega), r8.2]
        have e25 : ∀ y, T2.2.1 25 y = if y = 6 * t + i then nI v else T.2.1 25 y := fun y => by rw [q5.2, sA_21, if_pos rfl, r8.2]
        rw [eb2 T2 (fun j hj => by rw [e26])]
        simp only [Option.bind_some]
        rcases tnum_same (lo := 0) (hi := b) (n := n) (n' := m') q3 (by omega) (by omega) (by omega) (by omega) with ⟨S3, T3, at3, w, u1, u2, u3, u4, u5, u6, u7, u8, u9⟩ | ⟨S3, T3, w, p, u1, u2, u3, u4, u5, u6, u7, u8, u9⟩ | ⟨S3, T3, w, p, u1, u2, u3, u4, u5, u6, u7⟩
        · rw [show (0 : Int32) = nI 0 from rfl, u1, u2, show nI 0 = (0 : Int32) from rfl]
          simp only [Option.bind_some, b10, if_false]
          rw [u3.2.2.1, if_pos (show (-1 : Int32) < 0 by decide), u4, ckN (by omega) (by omega)]
          -- the class spreads
          have hq : (if nI i = 0 then (some (nI w)) else (some (nI b)) : Option Int32) = some (if i = 0 then nI w else nI b) := by
            rw [if0N (by omega)]; split <;> rfl
          rw [hq]
          simp only [Option.bind_some]
          obtain ⟨S4, p1, p2, p3, p4, p5⟩ := spread_L (k := k) (t := t) (a := a) (b := v) (u := if i = 0 then nI w else nI b) (v := nI w) ht (by omega) r6 (v - a) (a + 1) n S3 (by omega) (by omega) (by omega)
          have hsp : m_X3_spread n S3 k (nI t) (nI a) (if i = 0 then nI w else nI b) (nI v) (nI w) = some S4 := by
            unfold m_X3_spread
            rw [if_pos (show (0 : Int32) < nI v - nI a by rw [subN (by omega), show (0 : Int32) = nI 0 from rfl, ltN (by omega) (by omega)]; omega), s1, p1]; rfl
          rw [hsp]
          simp only [Option.bind_some]
          have hS4 : FtS k t S S4 := (hS2.trans u7.ft).trans ⟨fun i _ _ => by rw [p2], p4, p3, fun y hy => by rw [p5 y, if_neg (by omega)]⟩
          -- the reference's point
          have f26 : FtT t T3 (sA T3 26 (6 * t + i) (nI w)) := ⟨fun _ _ _ => rfl, fun a ha => sA_row (by omega), rfl, fun y _ => by rw [sA_row (by omega)], fun y hy => ⟨by rw [sA_row (by omega)], sA_ne (by omega)⟩⟩
          have hT4 : FtT t T (sA T3 26 (6 * t + i) (nI w)) := (hT2.trans u8.ft).trans f26
          have g25 : ∀ y, (sA T3 26 (6 * t + i) (nI w)).2.1 25 y = if y = 6 * t + i then nI v else T.2.1 25 y := fun y => by rw [sA_row (by omega), u8.2]; exact e25 y
          have g26 : ∀ y, (sA T3 26 (6 * t + i) (nI w)).2.1 26 y = if y = 6 * t + i then nI w else T.2.1 26 y := fun y => by rw [sA_21, if_pos rfl, u8.2, e26]
          have hG4 : GP len at3 S4 (sA T3 26 (6 * t + i) (nI w)) := by
            obtain ⟨k1, k2, k3, k4, k5, k6, k7, k8⟩ := u3
            exact ⟨by rw [p2]; exact k1, by rw [p2]; exact k2, by rw [p2]; exact k3, k4, k5, k6, k7, fun j hj => by rw [p4 2 (by omega)]; exact k8 j hj⟩
          have hP4 : PtR (i + 1) ((sA T3 26 (6 * t + i) (nI w)).2.1 25) ((sA T3 26 (6 * t + i) (nI w)).2.1 26) (6 * t) := by
            refine ⟨fun j hj => ?_, fun j hj => ?_⟩
            · rw [g25, g26]
              by_cases c : j = i
              · rw [if_pos (by rw [c]), if_pos (by rw [c])]
                exact ⟨by unfold Rg; rw [tiN (by omega)]; omega, Rg.of (n := 1000) (by omega) (by omega)⟩
              · rw [if_neg (by omega), if_neg (by omega)]; exact hP.1 j (by omega)
            · rw [g25, g26, g25, g26, if_neg (show ¬ 6 * t + j = 6 * t + i by omega), if_neg (show ¬ 6 * t + j = 6 * t + i by omega)]
              by_cases c : j + 1 = i
              · rw [if_pos (by omega), if_pos (by omega)]
                rw [if_neg (show ¬ i = 0 by omega), show i - 1 = j by omega] at hx3 hx4
                rw [← hx3, ← hx4, tiN (by omega), tiN (by omega), tiN (by omega), tiN (by omega)]
                omega
              · rw [if_neg (by omega), if_neg (by omega)]; exact hP.2 j (by omega)
          have hTab4 : ∀ x, 1 ≤ x → x ≤ 40 → S4.2.1 (5 + 3 * k) (41 * t + x) = tabP (i + 1) ((sA T3 26 (6 * t + i) (nI w)).2.1 25) ((sA T3 26 (6 * t + i) (nI w)).2.1 26) (6 * t) (nI x) := fun x hx1 hx2 => by
            have hold : S3.2.1 (5 + 3 * k) (41 * t + x) = tabP i (T.2.1 25) (T.2.1 26) (6 * t) (nI x) := by
              rw [u7.2, q4.2, r7.2]; exact hTab x hx1 hx2
            have hcon : i ≠ 0 → tabP i ((sA T3 26 (6 * t + i) (nI w)).2.1 25) ((sA T3 26 (6 * t + i) (nI w)).2.1 26) (6 * t) (nI x) = tabP i (T.2.1 25) (T.2.1 26) (6 * t) (nI x) := fun c => by
              unfold tabP
              rw [if_neg c, if_neg c]
              exact tabO_congr (by omega) (fun j hj => by rw [g25, g26, if_neg (by omega), if_neg (by omega)]; exact ⟨rfl, rfl⟩)
            rw [p5, tabP_step hP4, hold]
            rw [show 41 * t + x - 41 * t = x by omega]
            have gi : (sA T3 26 (6 * t + i) (nI w)).2.1 25 (6 * t + i) = nI v := by rw [g25, if_pos rfl]
            have oi : (sA T3 26 (6 * t + i) (nI w)).2.1 26 (6 * t + i) = nI w := by rw [g26, if_pos rfl]
            by_cases c : i = 0
            · subst c
              rw [if_pos rfl, if_pos rfl]
              have gi' : (sA T3 26 (6 * t + 0) (nI w)).2.1 25 (6 * t) = nI v := gi
              have oi' : (sA T3 26 (6 * t + 0) (nI w)).2.1 26 (6 * t) = nI w := oi
              have ea0 : a = 0 := by
                rw [if_pos rfl, show (0 : Int32) = nI 0 from rfl, eqN (by omega) (by omega)] at hx3; exact hx3
              rw [gi', oi', ifleN (by omega) (by omega)]
              by_cases c2 : x ≤ v
              · rw [if_pos (by omega), if_pos c2]
                rw [show nI w - nI w = 0 by rw [subN (by omega), Nat.sub_self]; rfl, Int32.zero_mul]
                rw [show (0 : Int32) / (nI v - nI a) = 0 from Int32.zero_div, show nI w - 0 = nI w from Int32.sub_zero _]
              · rw [if_neg (by omega), if_neg c2]; rfl
            · rw [if_neg c, if_neg c, hcon c]
              have gp : (sA T3 26 (6 * t + i) (nI w)).2.1 25 (6 * t + (i - 1)) = nI a := by
                rw [g25, if_neg (by omega)]
                rw [if_neg c] at hx3
                exact hx3.symm
              have op : (sA T3 26 (6 * t + i) (nI w)).2.1 26 (6 * t + (i - 1)) = nI b := by
                rw [g26, if_neg (by omega)]
                rw [if_neg c] at hx4
                exact hx4.symm
              rw [gi, oi, gp, op, ifleN (by omega) (by omega), ifleN (by omega) (by omega)]
              by_cases c1 : x ≤ a
              · rw [if_neg (by omega), if_pos c1]
              · rw [if_neg c1]
                by_cases c2 : x ≤ v
                · rw [if_pos (by omega), if_pos c2]
                · rw [if_neg (by omega), if_neg c2]
                  apply tabP_hi hP (by omega)
                  rw [if_neg c] at hx3
                  rw [← hx3, leN (by omega) (by omega)]; exact c1
          have hpow : ∀ X : St, (∀ y, X.2.1 25 y = (sA T3 26 (6 * t + i) (nI w)).2.1 25 y) → (∀ y, X.2.1 26 y = (sA T3 26 (6 * t + i) (nI w)).2.1 26 y) → TabK k t S4 (sA X 24 t (nI (i + 1))) := fun X h25 h26 => by
            have hx25 : (sA X 24 t (nI (i + 1))).2.1 25 = (sA T3 26 (6 * t + i) (nI w)).2.1 25 := by rw [sA_row (by omega)]; funext y; exact h25 y
            have hx26 : (sA X 24 t (nI (i + 1))).2.1 26 = (sA T3 26 (6 * t + i) (nI w)).2.1 26 := by rw [sA_row (by omega)]; funext y; exact h26 y
            refine ⟨i + 1, by omega, by omega, sA_eq, ?_, fun x h1 h2 => ?_⟩
            · rw [hx25, hx26]; exact hP4
            · rw [hx25, hx26, hTab4 x h1 h2]
              unfold tabP
              rw [if_neg (by omega)]
          have hfin : ∀ (nn : Nat) (X : St), m_X9_takesTable_L4 (nn + 1) X (nI t) (nI (i + 1)) 0 = some (1, sA X 24 t (nI (i + 1))) := fun nn X => by
            unfold m_X9_takesTable_L4
            simp only [nmE, if_true]
            rw [ckN (by omega) (by omega), clN (by omega)]
          have f24 : ∀ X : St, FtT t X (sA X 24 t (nI (i + 1))) := fun X => ⟨fun _ _ _ => rfl, fun a ha => sA_row (by omega), rfl, fun y hy => sA_ne hy, fun y hy => ⟨by rw [sA_row (by omega)], by rw [sA_row (by omega)]⟩⟩
          obtain ⟨m2, rfl⟩ : ∃ m, n = m + 1 := ⟨n - 1, by omega⟩
          obtain ⟨m3, rfl⟩ : ∃ m, m' = m + 1 := ⟨m' - 1, by omega⟩
          rw [s1, lit32 6, ifleN (by omega) (by omega)]
          by_cases c6 : 6 ≤ i + 1
          · rw [if_pos c6, hfin m3]
            have : i + 1 = 6 := by omega
            have h6 : m_X7_readTable_L15 (m2 + 1) S4 k (nI t) (nI v) (nI w) (nI (i + 1)) = some S4 := by rw [this]; exact readT6 _ _ _ _ _ _
            rw [h6]
            exact ⟨S4, _, rfl, hS4, hT4.trans (f24 _), Or.inl ⟨at3, rfl, hG4, hpow _ (fun _ => rfl) (fun _ => rfl)⟩⟩
          · rw [if_neg c6, readT1 m2 S4 k (i + 1) (nI t) (nI v) (nI w) hG4.2.2.1 (by omega) (by omega)]
            obtain ⟨k1, k2, k3, k4, k5, k6, k7, k8⟩ := id hG4
            rw [k1, k2, ifleN (by omega) (by omega)]
            have htk : m_X9_takes (sA T3 26 (6 * t + i) (nI w)) 44 = if len ≤ at3 then some (0, sA T3 26 (6 * t + i) (nI w)) else if (sA T3 26 (6 * t + i) (nI w)).2.1 17 at3 = 44 then some (1, sI (sA T3 26 (6 * t + i) (nI w)) 19 (nI (at3 + 1))) else some (0, sA T3 26 (6 * t + i) (nI w)) := by
              unfold m_X9_takes
              simp only [nmE]
              rw [k4, k5, ifleN (by omega) (by omega), s1]
              by_cases z : len ≤ at3
              · rw [if_pos z, if_pos z]
              · rw [if_neg z, if_neg z, ckN (by omega) (by omega), clN (by omega)]
            rw [htk]
            by_cases c1 : len ≤ at3
            · rw [if_pos c1, if_pos c1]
              simp only [Option.bind_some, b00, if_true]
              rw [hfin m3]
              exact ⟨S4, _, rfl, hS4, hT4.trans (f24 _), Or.inl ⟨at3, rfl, hG4, hpow _ (fun _ => rfl) (fun _ => rfl)⟩⟩
            · rw [if_neg c1, if_neg c1, ckN (by omega) (by omega), clN (by omega), (k8 at3 (by omega)).1]
              by_cases c2 : (sA T3 26 (6 * t + i) (nI w)).2.1 17 at3 = 44
              · rw [if_pos c2, if_pos c2]
                simp only [Option.bind_some, b10, if_false]
                have hG5 : GP len (at3 + 1) (sI S4 2 (nI at3 + 1)) (sI (sA T3 26 (6 * t + i) (nI w)) 19 (nI (at3 + 1))) := ⟨by rw [sI_ne (by omega)]; exact k1, by rw [sI_eq, s1], by rw [sI_ne (by omega)]; exact k3, by rw [sI_ne (by omega)]; exact k4, sI_eq, by omega, k7, k8⟩
                obtain ⟨S', T', z1, z2, z3, z4⟩ := ih (i + 1) m2 (m3 + 1) (at3 + 1) (sI S4 2 (nI at3 + 1)) (sI (sA T3 26 (6 * t + i) (nI w)) 19 (nI (at3 + 1))) (by omega) (by omega) (by omega) (by omega) hG5 hP4 hTab4 (nI v) (nI w) (by rw [if_neg (by omega), show i + 1 - 1 = i by omega]; exact (show _ = (sA T3 26 (6 * t + i) (nI w)).2.1 25 (6 * t + i) by rw [g25, if_pos rfl])) (by rw [if_neg (by omega), show i + 1 - 1 = i by omega]; exact (show _ = (sA T3 26 (6 * t + i) (nI w)).2.1 26 (6 * t + i) by rw [g26, if_pos rfl]))
                have a1 : P23 S4 (sI S4 2 (nI at3 + 1)) := (P23.rfl S4).at _
                have a2 : Q19 (sA T3 26 (6 * t + i) (nI w)) (sI (sA T3 26 (6 * t + i) (nI w)) 19 (nI (at3 + 1))) := (Q19.rfl _).at _
                exact ⟨S', T', z1, (hS4.trans a1.ft).trans z2, (hT4.trans a2.ft).trans z3, z4⟩
              · rw [if_neg c2, if_neg c2]
                simp only [Option.bind_some, b00, if_true]
                rw [hfin m3]
                exact ⟨S4, _, rfl, hS4, hT4.trans (f24 _), Or.inl ⟨at3, rfl, hG4, hpow _ (fun _ => rfl) (fun _ => rfl)⟩⟩
        · -- a digit behind the odds: the class goes on, and stops at the next sign
          rw [show (0 : Int32) = nI 0 from rfl, u1, u2, show nI 0 = (0 : Int32) from rfl]
          simp only [Option.bind_some, b00, if_true]
          rw [u3.2.2.1, if_pos (show (-1 : Int32) < 0 by decide)]
          have hq : (if nI i = 0 then (some (nI w)) else (some (nI b)) : Option Int32) = some (if i = 0 then nI w else nI b) := by
            rw [if0N (by omega)]; split <;> rfl
          rw [hq]
          simp only [Option.bind_some]
          obtain ⟨S4, p1, p2, p3, p4, p5⟩ := spread_L (k := k) (t := t) (a := a) (b := v) (u := if i = 0 then nI w else nI b) (v := nI w) ht (by omega) r6 (v - a) (a + 1) n S3 (by omega) (by omega) (by omega)
          have hsp : m_X3_spread n S3 k (nI t) (nI a) (if i = 0 then nI w else nI b) (nI v) (nI w) = some S4 := by
            unfold m_X3_spread
            rw [if_pos (show (0 : Int32) < nI v - nI a by rw [subN (by omega), show (0 : Int32) = nI 0 from rfl, ltN (by omega) (by omega)]; omega), s1, p1]; rfl
          rw [hsp]
          simp only [Option.bind_some]
          have hS4 : FtS k t S S4 := (hS2.trans u8.ft).trans ⟨fun i _ _ => by rw [p2], p4, p3, fun y hy => by rw [p5 y, if_neg (by omega)]⟩
          obtain ⟨d1, d2, d3, d4, d5, d6⟩ := u3
          have hD4 : DP len p S4 := ⟨by rw [p2]; exact d1, by rw [p2]; exact d2, by rw [p2]; exact d3, d4, d5, by rw [p4 2 (by omega)]; exact d6⟩
          obtain ⟨m2, rfl⟩ : ∃ m, n = m + 1 := ⟨n - 1, by omega⟩
          rw [s1]
          have hst : m_X7_readTable_L15 (m2 + 1) S4 k (nI t) (nI v) (nI w) (nI (i + 1)) = some S4 := by
            by_cases c6 : 6 ≤ i + 1
            · rw [show nI (i + 1) = nI 6 by rw [show i + 1 = 6 by omega], readT6]
            · rw [readT1 m2 S4 k (i + 1) (nI t) (nI v) (nI w) hD4.2.2.1 (by omega) (by omega), hD4.1, hD4.2.1, ifleN (by omega) (by omega), if_neg (by omega), ckN (by omega) (by omega), clN (by omega)]
              obtain ⟨g, hg, eg⟩ := dig_nat hD4.2.2.2.2.2
              rw [eg, lit32 44, ifeqN (by omega) (by omega), if_neg (by omega)]
          rw [hst]
          exact ⟨S4, T3, rfl, hS4, hT2.trans u9.ft, Or.inr (Or.inl ⟨p, rfl, hD4, u4, u5⟩)⟩
        · rw [show (0 : Int32) = nI 0 from rfl, u1, u2, show nI 0 = (0 : Int32) from rfl]
          simp only [Option.bind_some, b00, if_true]
          rw [u3, if_neg (nI_pos (by omega))]
          exact ⟨S3, T3, rfl, hS2.trans u6.ft, hT2.trans u7.ft, Or.inr (Or.inr ⟨p, rfl, u3, u4, u5⟩)⟩
      · rw [q1, q2]
        simp only [Option.bind_some, b00, if_true]
        rw [bad_num q3 (by have := r3.2.2.2.2.2.1; have := r3.2.2.2.2.2.2.1; omega)]
        simp only [Option.bind_some]
        rw [q3, if_neg (nI_pos (by have := r3.2.2.2.2.2.1; have := r3.2.2.2.2.2.2.1; omega))]
        have f25 : FtT t T1 (sA T1 25 (6 * t + i) (nI v)) := ⟨fun _ _ _ => rfl, fun a ha => sA_row (by omega), rfl, fun y _ => by rw [sA_row (by omega)], fun y hy => ⟨sA_ne (by omega), by rw [sA_row (by omega)]⟩⟩
        exact ⟨S2, _, rfl, r7.ft.trans q4.ft, r8.ft.trans f25, Or.inr (Or.inr ⟨at2, rfl, q3, r3.2.2.2.2.1, by have := r3.2.2.2.2.2.1; have := r3.2.2.2.2.2.2.1; omega⟩)⟩
    · rw [rfl40, r1, r2]
      simp only [Option.bind_some, b00, if_true]
      obtain ⟨S2, q1, q3, q4⟩ := dead_sign r3 (c := 61) (by omega) (by omega)
      rw [show (61 : Int32) = nI 61 from rfl, q1]
      simp only [Option.bind_some]
      rw [bad_num q3 r5]
      simp only [Option.bind_some]
      rw [q3, if_neg (nI_pos (by omega))]
      exact ⟨S2, T1, rfl, r8.ft.trans q4.ft, r9.ft, Or.inr (Or.inr ⟨p, rfl, q3, r4, r5⟩)⟩
    · rw [rfl40, r1, r2]
      simp only [Option.bind_some, b00, if_true]
      rw [bad_sign r3 r5]
      simp only [Option.bind_some]
      rw [bad_num r3 r5]
      simp only [Option.bind_some]
      rw [r3, if_neg (nI_pos (by omega))]
      exact ⟨S1, T1, rfl, r6.ft, r7.ft, Or.inr (Or.inr ⟨p, rfl, r3, r4, r5⟩)⟩
theorem bad_table {S : St} {p n k t : Nat} (ht : t < 3) (h : S.1 3 = nI p) (hp : p ≤ 240) (hn : 50 ≤ n) : ∃ S', m_X7_readTable n S k (nI t) = some S' ∧ S'.1 3 = nI p ∧ FtS k t S S' := by
  obtain ⟨S1, e1, e2, e3, e4, e5⟩ := clear_L (k := k) ht 41 0 n S (by omega) (by omega)
  refine ⟨S1, ?_, by rw [e2]; exact h, fun i _ _ => by rw [e2], e4, e3, fun y hy => by rw [e5 y, if_neg (by omega)]⟩
  unfold m_X7_readTable m_X3_clearTable
  rw [show m_X3_clearTable_L2 n S k (nI t) 0 = _ from e1]
  simp only [Option.bind_some]
  obtain ⟨m, rfl⟩ : ∃ m, n = m + 1 := ⟨n - 1, by omega⟩
  unfold m_X7_readTable_L15
  rw [e2, h, if_neg (by decide), if_pos (show (0 : Int32) ≤ nI p by rw [show (0 : Int32) = nI 0 from rfl, leN (by omega) (by omega)]; omega)]
/-- both read a table -/
theorem table_same {len at' k t n n' : Nat} {S T : St} (ht : t < 3) (hn : 100 ≤ n) (hn' : 100 ≤ n') (hG : GP len at' S T) :
    ∃ S' T', m_X7_readTable n S k (nI t) = some S' ∧ FtS k t S S' ∧ FtT t T T' ∧
      ((∃ at2, m_X9_takesTable n' T (nI t) = some (1, T') ∧ GP len at2 S' T' ∧ TabK k t S' T') ∨
       (∃ p, m_X9_takesTable n' T (nI t) = some (0, T') ∧ DP len p S' ∧ T'.1 19 = nI p ∧ p ≤ 240) ∨
       (∃ p, m_X9_takesTable n' T (nI t) = some (0, T') ∧ S'.1 3 = nI p ∧ T'.1 19 = nI p ∧ p ≤ 240)) := by
  obtain ⟨S1, e1, e2, e3, e4, e5⟩ := clear_L (k := k) ht 41 0 n S (by omega) (by omega)
  obtain ⟨k1, k2, k3, k4, k5, k6, k7, k8⟩ := hG
  have hG1 : GP len at' S1 T := ⟨by rw [e2]; exact k1, by rw [e2]; exact k2, by rw [e2]; exact k3, k4, k5, k6, k7, fun j hj => by rw [e4 2 (by omega)]; exact k8 j hj⟩
  obtain ⟨m, rfl⟩ : ∃ m, n = m + 1 := ⟨n - 1, by omega⟩
  obtain ⟨S', T', z1, z2, z3, z4⟩ := tab_same (len := len) (k := k) ht 6 0 m n' at' S1 T (by omega) (by omega) (by omega) (by omega) hG1 ⟨fun j hj => absurd hj (by omega), fun j hj => absurd hj (by omega)⟩ (fun x h1 h2 => by rw [e5, if_pos (by omega)]; rfl) 0 1000 rfl rfl
  have hS1 : FtS k t S S1 := ⟨fun i _ _ => by rw [e2], e4, e3, fun y hy => by rw [e5 y, if_neg (by omega)]⟩
  refine ⟨S', T', ?_, hS1.trans z2, z3, z4⟩
  unfold m_X7_readTable m_X3_clearTable
  rw [show m_X3_clearTable_L2 (m + 1) S k (nI t) 0 = _ from e1]
  simp only [Option.bind_some]
  rw [readT0 m S1 k (nI t) 0 1000 hG1.2.2.1]
  exact z1
