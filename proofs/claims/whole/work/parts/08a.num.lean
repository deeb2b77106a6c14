/-! ===== layer B: numbers ===== -/
theorem lit32 (n : Nat) : (OfNat.ofNat n : Int32) = nI n := rfl
theorem nI_lt31 {a : Nat} (h : a < 2147483648) : a < 2 ^ 31 := h
theorem clN {i : Nat} (h : i < 2147483648) : (nI i).toNatClampNeg = i := nI_clamp h
theorem tiN {i : Nat} (h : i < 2147483648) : (nI i).toInt = (i : Int) := nI_toInt h
theorem ckN {α : Type} {i n : Nat} {x : Option α} (h : i < n) (hn : n < 2147483648) : ck (nI i) n x = x := ck_in (by rw [tiN (by omega)]; omega) (by rw [tiN (by omega)]; omega)
theorem leN {a b : Nat} (ha : a < 2147483648) (hb : b < 2147483648) : (nI a ≤ nI b) = (a ≤ b) := propext (nI_leI ha hb)
theorem ltN {a b : Nat} (ha : a < 2147483648) (hb : b < 2147483648) : (nI a < nI b) = (a < b) := propext (nI_ltI ha hb)
theorem eqN {a b : Nat} (ha : a < 2147483648) (hb : b < 2147483648) : (nI a = nI b) = (a = b) := propext (nI_eq ha hb)
theorem subN {a b : Nat} (h : b ≤ a) : nI a - nI b = nI (a - b) := pk_sub h
theorem nmE {α β : Type} (a : α) (f : α → Option β) : nm a f = f a := rfl
theorem ckb0 {α : Type} {x : Option α} : ckb 0 x = x := rfl
theorem ckb1 {α : Type} {x : Option α} : ckb 1 x = x := rfl
/-- an int that is within 0 .. n - 1, or not -/
theorem cases32 (p : Int32) (n : Nat) (hn : n < 2147483648) : (∃ j : Nat, j < n ∧ p = nI j) ∨ (p.toInt < 0 ∨ (n : Int) ≤ p.toInt) := by
  rcases pk_ix p (n := n) hn with h | h | h
  · right; left
    have := Int32.lt_iff_toInt_lt.mp h
    simpa using this
  · right; right
    have := Int32.le_iff_toInt_le.mp h
    rw [tiN hn] at this
    exact this
  · left; exact h
theorem lt32 (a b : Int32) : (a < b) = (a.toInt < b.toInt) := propext Int32.lt_iff_toInt_lt
theorem le32 (a b : Int32) : (a ≤ b) = (a.toInt ≤ b.toInt) := propext Int32.le_iff_toInt_le
theorem eq32 (a b : Int32) : (a = b) = (a.toInt = b.toInt) := propext ⟨fun h => by rw [h], fun h => Int32.toInt_inj.mp h⟩
theorem t64 (x : Int32) : x.toInt64.toInt = x.toInt := by simp
theorem cmp_lt (a b : Int64) : (lg_cmp a b < 0) = (a.toInt < b.toInt) := by
  unfold lg_cmp
  apply propext
  by_cases h : a > b
  · rw [if_pos h]
    have := Int64.lt_iff_toInt_lt.mp h
    constructor
    · intro h2; exact absurd h2 (by decide)
    · intro h2; omega
  · rw [if_neg h]
    have h1 : ¬ b.toInt < a.toInt := fun q => h (Int64.lt_iff_toInt_lt.mpr q)
    by_cases h2 : a = b
    · rw [if_pos h2, h2]
      constructor
      · intro h3; exact absurd h3 (by decide)
      · intro h3; omega
    · rw [if_neg h2]
      have h3 : a.toInt ≠ b.toInt := fun q => h2 (Int64.toInt_inj.mp q)
      constructor
      · intro _; omega
      · intro _; decide
theorem cmp_gt (a b : Int64) : (0 < lg_cmp a b) = (b.toInt < a.toInt) := by
  unfold lg_cmp
  apply propext
  by_cases h : a > b
  · rw [if_pos h]
    have := Int64.lt_iff_toInt_lt.mp h
    constructor
    · intro _; exact this
    · intro _; decide
  · rw [if_neg h]
    have h1 : ¬ b.toInt < a.toInt := fun q => h (Int64.lt_iff_toInt_lt.mpr q)
    by_cases h2 : a = b
    · rw [if_pos h2]
      constructor
      · intro h3; exact absurd h3 (by decide)
      · intro h3; omega
    · rw [if_neg h2]
      constructor
      · intro h3; exact absurd h3 (by decide)
      · intro h3; omega
/-- within, in the reference -/
theorem in_eq (T : St) (a b c : Int64) : m_X9_in T a b c = some (if b.toInt ≤ a.toInt ∧ a.toInt ≤ c.toInt then 1 else 0) := by
  unfold m_X9_in
  simp only [cmp_lt, cmp_gt]
  by_cases h1 : a.toInt < b.toInt
  · rw [if_pos h1, if_neg (by omega)]
  · rw [if_neg h1]
    by_cases h2 : c.toInt < a.toInt
    · rw [if_pos h2, if_neg (by omega)]
    · rw [if_neg h2, if_pos (by omega)]
theorem in_yes {T : St} {a b c : Int64} (h1 : b.toInt ≤ a.toInt) (h2 : a.toInt ≤ c.toInt) : m_X9_in T a b c = some 1 := by rw [in_eq, if_pos ⟨h1, h2⟩]
theorem in_no {T : St} {a b c : Int64} (h : a.toInt < b.toInt ∨ c.toInt < a.toInt) : m_X9_in T a b c = some 0 := by rw [in_eq, if_neg (by omega)]
/-! the states: what a setter leaves -/
theorem sI_1 (S : St) (k : Nat) (v : Int32) (j : Nat) : (sI S k v).1 j = if j = k then v else S.1 j := rfl
theorem sI_2 (S : St) (k : Nat) (v : Int32) : (sI S k v).2 = S.2 := rfl
theorem sA_1 (S : St) (a i : Nat) (v : Int32) : (sA S a i v).1 = S.1 := rfl
theorem sA_21 (S : St) (a i : Nat) (v : Int32) (x y : Nat) : (sA S a i v).2.1 x y = if x = a then (if y = i then v else S.2.1 a y) else S.2.1 x y := by
  show va_up S.2.1 a (upd (S.2.1 a) i v) x y = _
  unfold va_up upd
  by_cases h : x = a
  · rw [if_pos h, if_pos h]
  · rw [if_neg h, if_neg h]
theorem sA_22 (S : St) (a i : Nat) (v : Int32) : (sA S a i v).2.2 = S.2.2 := rfl
theorem sJ_1 (S : St) (a i : Nat) (v : Int64) : (sJ S a i v).1 = S.1 := rfl
theorem sJ_21 (S : St) (a i : Nat) (v : Int64) : (sJ S a i v).2.1 = S.2.1 := rfl
theorem sJ_221 (S : St) (a i : Nat) (v : Int64) (x y : Nat) : (sJ S a i v).2.2.1 x y = if x = a then (if y = i then v else S.2.2.1 a y) else S.2.2.1 x y := by
  show va_up S.2.2.1 a (vp_updL (S.2.2.1 a) i v) x y = _
  unfold va_up vp_updL
  by_cases h : x = a
  · rw [if_pos h, if_pos h]
  · rw [if_neg h, if_neg h]
theorem sJ_222 (S : St) (a i : Nat) (v : Int64) : (sJ S a i v).2.2.2 = S.2.2.2 := rfl
theorem sF_1 (S : St) (a : Nat) (f : Nat → Int32) : (sF S a f).1 = S.1 := rfl
theorem sF_21 (S : St) (a : Nat) (f : Nat → Int32) (x : Nat) : (sF S a f).2.1 x = if x = a then f else S.2.1 x := rfl
theorem sF_22 (S : St) (a : Nat) (f : Nat → Int32) : (sF S a f).2.2 = S.2.2 := rfl
theorem sR_1 (S : St) (k : Nat) (v : Option Nat) : (sR S k v).1 = S.1 := rfl
theorem sR_21 (S : St) (k : Nat) (v : Option Nat) : (sR S k v).2.1 = S.2.1 := rfl
theorem sR_221 (S : St) (k : Nat) (v : Option Nat) : (sR S k v).2.2.1 = S.2.2.1 := rfl
theorem sR_222 (S : St) (k : Nat) (v : Option Nat) (j : Nat) : (sR S k v).2.2.2 j = if j = k then v else S.2.2.2 j := rfl
/-! the reference's cells of the meet -/
abbrev mt (T : St) (l w : Nat) : Int32 := T.2.1 11 (3 + 10 * l + w)
theorem ix_mt (l w : Nat) : (3 : Int32) + 10 * nI l + nI w = nI (3 + 10 * l + w) := by
  rw [lit32 3, lit32 10, pk_mul, nI_add, nI_add]
theorem of_eq {T : St} {l w : Nat} (hl : l < 6) (hw : w < 10) : m_X9_of T (nI l) (nI w) = some (mt T l w) := by
  unfold m_X9_of
  rw [ix_mt, ckN (by omega) (by omega), clN (by omega)]
theorem sets_eq {T : St} {l w : Nat} (v : Int32) (hl : l < 6) (hw : w < 10) : m_X9_sets T (nI l) (nI w) v = some (sA T 11 (3 + 10 * l + w) v) := by
  unfold m_X9_sets
  rw [ix_mt, ckN (by omega) (by omega), clN (by omega)]
  rfl
theorem of0 {T : St} {l : Nat} (hl : l < 6) : m_X9_of T (nI l) 0 = some (mt T l 0) := of_eq (w := 0) hl (by omega)
theorem sets0 {T : St} {l : Nat} (v : Int32) (hl : l < 6) : m_X9_sets T (nI l) 0 v = some (sA T 11 (3 + 10 * l + 0) v) := sets_eq (w := 0) v hl (by omega)
theorem of1 {T : St} {l : Nat} (hl : l < 6) : m_X9_of T (nI l) 1 = some (mt T l 1) := of_eq (w := 1) hl (by omega)
theorem sets1 {T : St} {l : Nat} (v : Int32) (hl : l < 6) : m_X9_sets T (nI l) 1 v = some (sA T 11 (3 + 10 * l + 1) v) := sets_eq (w := 1) v hl (by omega)
theorem of2 {T : St} {l : Nat} (hl : l < 6) : m_X9_of T (nI l) 2 = some (mt T l 2) := of_eq (w := 2) hl (by omega)
theorem sets2 {T : St} {l : Nat} (v : Int32) (hl : l < 6) : m_X9_sets T (nI l) 2 v = some (sA T 11 (3 + 10 * l + 2) v) := sets_eq (w := 2) v hl (by omega)
theorem of3 {T : St} {l : Nat} (hl : l < 6) : m_X9_of T (nI l) 3 = some (mt T l 3) := of_eq (w := 3) hl (by omega)
theorem sets3 {T : St} {l : Nat} (v : Int32) (hl : l < 6) : m_X9_sets T (nI l) 3 v = some (sA T 11 (3 + 10 * l + 3) v) := sets_eq (w := 3) v hl (by omega)
theorem of4 {T : St} {l : Nat} (hl : l < 6) : m_X9_of T (nI l) 4 = some (mt T l 4) := of_eq (w := 4) hl (by omega)
theorem sets4 {T : St} {l : Nat} (v : Int32) (hl : l < 6) : m_X9_sets T (nI l) 4 v = some (sA T 11 (3 + 10 * l + 4) v) := sets_eq (w := 4) v hl (by omega)
theorem of5 {T : St} {l : Nat} (hl : l < 6) : m_X9_of T (nI l) 5 = some (mt T l 5) := of_eq (w := 5) hl (by omega)
theorem sets5 {T : St} {l : Nat} (v : Int32) (hl : l < 6) : m_X9_sets T (nI l) 5 v = some (sA T 11 (3 + 10 * l + 5) v) := sets_eq (w := 5) v hl (by omega)
theorem of6 {T : St} {l : Nat} (hl : l < 6) : m_X9_of T (nI l) 6 = some (mt T l 6) := of_eq (w := 6) hl (by omega)
theorem sets6 {T : St} {l : Nat} (v : Int32) (hl : l < 6) : m_X9_sets T (nI l) 6 v = some (sA T 11 (3 + 10 * l + 6) v) := sets_eq (w := 6) v hl (by omega)
theorem of7 {T : St} {l : Nat} (hl : l < 6) : m_X9_of T (nI l) 7 = some (mt T l 7) := of_eq (w := 7) hl (by omega)
theorem sets7 {T : St} {l : Nat} (v : Int32) (hl : l < 6) : m_X9_sets T (nI l) 7 v = some (sA T 11 (3 + 10 * l + 7) v) := sets_eq (w := 7) v hl (by omega)
theorem of8 {T : St} {l : Nat} (hl : l < 6) : m_X9_of T (nI l) 8 = some (mt T l 8) := of_eq (w := 8) hl (by omega)
theorem sets8 {T : St} {l : Nat} (v : Int32) (hl : l < 6) : m_X9_sets T (nI l) 8 v = some (sA T 11 (3 + 10 * l + 8) v) := sets_eq (w := 8) v hl (by omega)
theorem of9 {T : St} {l : Nat} (hl : l < 6) : m_X9_of T (nI l) 9 = some (mt T l 9) := of_eq (w := 9) hl (by omega)
theorem sets9 {T : St} {l : Nat} (v : Int32) (hl : l < 6) : m_X9_sets T (nI l) 9 v = some (sA T 11 (3 + 10 * l + 9) v) := sets_eq (w := 9) v hl (by omega)
theorem isOver_eq (T : St) : m_X9_isOver T = some (if T.2.1 11 0 = 3 then 1 else 0) := by
  unfold m_X9_isOver
  rw [show (0 : Int32) = nI 0 from rfl, ckN (by omega) (by omega), clN (by omega)]
  split <;> rfl
theorem isOut_eq {T : St} {l : Nat} (hl : l < 6) : m_X9_isOut T (nI l) = some (if mt T l 6 = 1 then 1 else 0) := by
  unfold m_X9_isOut
  rw [of6 hl]
  show (if mt T l 6 = 1 then some 1 else some 0) = _
  split <;> rfl
theorem isStill_eq {T : St} {l : Nat} (hl : l < 6) : m_X9_isStill T (nI l) = some (if ¬ mt T l 0 ≤ 0 ∧ mt T l 1 = 0 ∧ ¬ mt T l 6 = 1 ∧ ¬ T.2.1 11 0 = 3 then 1 else 0) := by
  unfold m_X9_isStill
  rw [of0 hl, of1 hl, isOut_eq hl, isOver_eq]
  simp only [Option.bind_some]
  by_cases h0 : mt T l 0 ≤ 0
  · simp [h0]
  · by_cases h1 : mt T l 1 = 0
    · by_cases h2 : mt T l 6 = 1
      · simp [h0, h1, h2]
      · by_cases h3 : T.2.1 11 0 = 3
        · simp [h0, h1, h2, h3]
        · simp [h0, h1, h2, h3]
    · simp [h0, h1]
/-- waits, in the class -/
theorem waits_eq {ib ab : Nat} {S : St} {l : Nat} (hl : l < 6) : m_X4_waits ib ab S (nI l) = some (if ¬ S.2.1 (ab + 1) l ≤ 0 ∧ S.2.1 (ab + 2) l = 0 then 1 else 0) := by
  unfold m_X4_waits
  rw [ckN (by omega) (by omega), ckN (by omega) (by omega), clN (by omega)]
  by_cases h0 : S.2.1 (ab + 1) l ≤ 0
  · simp [h0]
  · by_cases h1 : S.2.1 (ab + 2) l = 0
    · simp [h0, h1]
    · simp [h0, h1]
