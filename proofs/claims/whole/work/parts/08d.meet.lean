/-! ===== layer B: who is called, who is ahead ===== -/
theorem b10 : ((1 : Int32) = 0) = False := eq_false (by decide)
theorem b00 : ((0 : Int32) = 0) = True := eq_true rfl
theorem ifeqN {α : Type} {a b : Nat} {x y : α} (ha : a < 2147483648) (hb : b < 2147483648) : (if nI a = nI b then x else y) = if a = b then x else y := by
  by_cases h : a = b
  · rw [if_pos h, if_pos (by rw [h])]
  · rw [if_neg h, if_neg (by rw [eqN ha hb]; exact h)]
theorem ifleN {α : Type} {a b : Nat} {x y : α} (ha : a < 2147483648) (hb : b < 2147483648) : (if nI a ≤ nI b then x else y) = if a ≤ b then x else y := by
  by_cases h : a ≤ b
  · rw [if_pos h, if_pos (by rw [leN ha hb]; exact h)]
  · rw [if_neg h, if_neg (by rw [leN ha hb]; exact h)]
theorem ifltN {α : Type} {a b : Nat} {x y : α} (ha : a < 2147483648) (hb : b < 2147483648) : (if nI a < nI b then x else y) = if a < b then x else y := by
  by_cases h : a < b
  · rw [if_pos h, if_pos (by rw [ltN ha hb]; exact h)]
  · rw [if_neg h, if_neg (by rw [ltN ha hb]; exact h)]
theorem if0N {α : Type} {a : Nat} {x y : α} (ha : a < 2147483648) : (if nI a = 0 then x else y) = if a = 0 then x else y := ifeqN (b := 0) ha (by omega)
theorem s1 (a : Nat) : nI a + 1 = nI (a + 1) := by rw [lit32 1, nI_add]
theorem s0 (a : Nat) : nI a + 0 = nI a := by rw [show (0 : Int32) = nI 0 from rfl, nI_add, Nat.add_zero]
theorem nI_ne_m1 {a : Nat} (h : a < 2147483648) : ¬ nI a = -1 := by
  intro q
  have := congrArg Int32.toInt q
  rw [tiN h] at this
  have e : (-1 : Int32).toInt = -1 := rfl
  omega
def wt (T : St) (l : Nat) : Bool := decide (¬ mt T l 0 ≤ 0 ∧ mt T l 1 = 0)
def kyA (T : St) (x : Int32) (l : Nat) : Int := 100 * x.toInt + (T.2.1 5 l).toInt
def key (T : St) (l : Nat) : Int := kyA T (mt T l 0) l
/-- what the reference's order of calls rests on -/
def RT (k : Nat) (T : St) : Prop := k ≤ 6 ∧ T.1 3 = nI k ∧ ∀ l, l < k → Rg (T.2.1 5 l) 0 99 ∧ (mt T l 6 = 1 → mt T l 0 = 0) ∧ (T.2.1 11 0 = 3 → mt T l 0 = 0)
def VR (ib ab k : Nat) (S T : St) : Prop := k ≤ 6 ∧ T.1 3 = nI k ∧ Rg (T.1 10) 0 300 ∧ (∀ l, l < k → LifR S T l) ∧ (∀ a b, a < k → b < k → a ≠ b → T.2.1 5 a ≠ T.2.1 5 b) ∧ MeetR ib ab k S T ∧ MeetI k (T.2.1 11) (T.1 13) (T.1 14)
theorem CoreR.vr {k : Nat} {S T : St} (h : CoreR k S T) : VR 30 25 k S T := ⟨h.1, h.2.1, h.2.2.1, h.2.2.2.2.1, h.2.2.2.2.2.1, h.2.2.2.2.2.2.1, h.2.2.2.2.2.2.2.1⟩
theorem VR.congrT {ib ab k : Nat} {S T T' : St} (h : VR ib ab k S T) (f : EqT T T') : VR ib ab k S T' := by
  obtain ⟨hk, h3, h10, hli, hlo, hme, hmi⟩ := h
  obtain ⟨⟨t3, t10, t13, t14, t18⟩, tr, t11, t15, t17⟩ := f
  refine ⟨hk, by rw [t3]; exact h3, by rw [t10]; exact h10, fun l hl => (hli l hl).congr rfl rfl rfl rfl tr, ?_, hme.congr (fun i hi => rfl) (fun i hi1 hi2 => rfl) t10 t13 t14 t11, ?_⟩
  · rw [tr 5 (by omega) (by omega)]; exact hlo
  · rw [t11, t13, t14]; exact hmi
theorem VR.rt {ib ab k : Nat} {S T : St} (h : VR ib ab k S T) : RT k T := by
  obtain ⟨hk, h3, h10, hli, hlo, hme, lift, round, done, g1, g2, g3, g4, g5, g6, g7, g8, g9, g10, g11, g12, g13, g14, g15⟩ := h
  refine ⟨hk, h3, fun l hl => ⟨(hli l hl).2.2.2.1, (g15 l hl).2.2.2.2.2.2.2.1, fun e => ?_⟩⟩
  have e3 : lift = 3 := by
    rw [show T.2.1 11 0 = nI lift from g3, show (3 : Int32) = nI 3 from rfl, eqN (by omega) (by omega)] at e; exact e
  exact ((g15 l hl).2.2.2.2.2.2.2.2.1 e3).1
theorem still_eq {k l : Nat} {T : St} (h : RT k T) (hl : l < k) : m_X9_isStill T (nI l) = some (if wt T l = true then 1 else 0) := by
  obtain ⟨hk, h3, h4⟩ := h
  obtain ⟨_, h5, h6⟩ := h4 l hl
  rw [isStill_eq (by omega)]
  unfold wt
  simp only [decide_eq_true_eq]
  by_cases hc : ¬ mt T l 0 ≤ 0 ∧ mt T l 1 = 0
  · rw [if_pos hc, if_pos]
    refine ⟨hc.1, hc.2, fun q => hc.1 ?_, fun q => hc.1 ?_⟩
    · rw [h5 q]; decide
    · rw [h6 q]; decide
  · rw [if_neg hc, if_neg]
    exact fun q => hc ⟨q.1, q.2.1⟩
theorem aheadC {k a b : Nat} {T : St} (h : RT k T) (ha : a < k) (hb : b < k) : m_X9_isCalledAhead T (nI a) (nI b) = some (if key T a < key T b then 1 else 0) := by
  obtain ⟨hk, h3, h4⟩ := h
  obtain ⟨la, _⟩ := h4 a ha
  obtain ⟨lb, _⟩ := h4 b hb
  unfold m_X9_isCalledAhead key kyA
  rw [of0 (by omega), of0 (by omega)]
  simp only [Option.bind_some, lt32, le32, eq32]
  rw [ckN (by omega) (by omega), ckN (by omega) (by omega), clN (by omega), clN (by omega)]
  have h1 := la.1; have h2 := la.2; have h3 := lb.1; have h4 := lb.2
  by_cases c1 : (mt T a 0).toInt < (mt T b 0).toInt
  · rw [if_pos c1, if_pos (by omega)]
  · rw [if_neg c1]
    by_cases c2 : (mt T a 0).toInt = (mt T b 0).toInt
    · rw [if_pos c2]
      by_cases c3 : (T.2.1 5 b).toInt ≤ (T.2.1 5 a).toInt
      · rw [if_pos c3, if_neg (by omega)]
      · rw [if_neg c3, if_pos (by omega)]
    · rw [if_neg c2, if_neg (by omega)]
theorem calledAhead_L {k l : Nat} {T : St} (h : RT k T) (hl : l < k) : ∀ d i n a, i + d = k → d + 1 ≤ n → m_X9_calledAhead_L4 n T (nI l) (nI a) (nI i) = some (nI (a + cntR (fun j => wt T j && decide (key T j < key T l)) i d)) := by
  intro d
  induction d with
  | zero =>
    intro i n a hi hn
    obtain ⟨m, rfl⟩ : ∃ m, n = m + 1 := ⟨n - 1, by omega⟩
    unfold m_X9_calledAhead_L4
    rw [h.2.1, if_pos (by rw [leN (by have := h.1; omega) (by have := h.1; omega)]; omega)]
    rfl
  | succ d ih =>
    intro i n a hi hn
    obtain ⟨m, rfl⟩ : ∃ m, n = m + 1 := ⟨n - 1, by omega⟩
    have hk := h.1
    unfold m_X9_calledAhead_L4
    rw [h.2.1, if_neg (by rw [leN (by omega) (by omega)]; omega), still_eq h (by omega), aheadC h (by omega) hl, ifeqN (by omega) (by omega)]
    show _ = some (nI (a + ((if (wt T i && decide (key T i < key T l)) = true then 1 else 0) + cntR (fun j => wt T j && decide (key T j < key T l)) (i + 1) d)))
    unfold m_X9_flag
    by_cases c0 : i = l
    · subst c0
      rw [if_pos rfl, if_neg (by simp)]
      simp only [Option.bind_some, b00, if_true]
      rw [s0, s1, ih (i + 1) m _ (by omega) (by omega)]
      congr 2; omega
    · rw [if_neg c0]
      by_cases c1 : wt T i = true
      · by_cases c2 : key T i < key T l
        · simp only [c1, c2, if_true, Option.bind_some, b10, if_false, Bool.true_and, decide_true]
          rw [s1, s1, ih (i + 1) m _ (by omega) (by omega)]
          congr 2; omega
        · simp only [c1, c2, if_true, Option.bind_some, b10, b00, if_false, Bool.true_and, decide_false, Bool.false_eq_true]
          rw [s0, s1, ih (i + 1) m _ (by omega) (by omega)]
          congr 2; omega
      · simp only [c1, if_true, Option.bind_some, b00, if_false, Bool.false_and, Bool.false_eq_true]
        rw [s0, s1, ih (i + 1) m _ (by omega) (by omega)]
        congr 2; omega
theorem calledAhead_eq {k l n : Nat} {T : St} (h : RT k T) (hl : l < k) (hn : 7 ≤ n) : m_X9_calledAhead n T (nI l) = some (nI (rnk k (wt T) (key T) l)) := by
  unfold m_X9_calledAhead
  rw [show m_X9_calledAhead_L4 n T (nI l) 0 0 = _ from calledAhead_L h hl k 0 n 0 (by omega) (by have := h.1; omega)]
  rw [Nat.zero_add]
  rfl
/-- who is called -/
def isCalled (T : St) (k : Nat) (r : Int32) : Prop := (r = -1 ∧ ∀ l, l < k → wt T l = false) ∨ ∃ i, i < k ∧ r = nI i ∧ wt T i = true ∧ ∀ j, j < k → wt T j = true → key T i ≤ key T j
theorem calledNow_L {k : Nat} {T : St} (h : RT k T) : ∀ d i n b, i + d = k → d + 1 ≤ n → isCalled T i b → ∃ r, m_X9_calledNow_L4 n T b (nI i) = some r ∧ isCalled T k r := by
  intro d
  induction d with
  | zero =>
    intro i n b hi hn hb
    obtain ⟨m, rfl⟩ : ∃ m, n = m + 1 := ⟨n - 1, by omega⟩
    have hk := h.1
    have : i = k := by omega
    subst this
    refine ⟨b, ?_, hb⟩
    unfold m_X9_calledNow_L4
    rw [h.2.1, if_pos (by rw [leN (by omega) (by omega)]; omega)]
  | succ d ih =>
    intro i n b hi hn hb
    obtain ⟨m, rfl⟩ : ∃ m, n = m + 1 := ⟨n - 1, by omega⟩
    have hk := h.1
    unfold m_X9_calledNow_L4
    rw [h.2.1, if_neg (by rw [leN (by omega) (by omega)]; omega), still_eq h (by omega), s1 i]
    by_cases c1 : wt T i = true
    · simp only [c1, if_true, Option.bind_some, b10, if_false]
      rcases hb with ⟨rfl, hb⟩ | ⟨x, hx, rfl, hw, hmin⟩
      · rw [if_pos rfl]
        refine ih (i + 1) m _ (by omega) (by omega) (Or.inr ⟨i, by omega, rfl, c1, ?_⟩)
        intro j hj hwj
        by_cases hji : j = i
        · subst hji; omega
        · rw [hb j (by omega)] at hwj; exact absurd hwj (by decide)
      · rw [if_neg (nI_ne_m1 (by omega)), aheadC h (by omega) (by omega)]
        by_cases c2 : key T i < key T x
        · simp only [c2, if_true, Option.bind_some, b10, if_false]
          refine ih (i + 1) m _ (by omega) (by omega) (Or.inr ⟨i, by omega, rfl, c1, ?_⟩)
          intro j hj hwj
          by_cases hji : j = i
          · subst hji; omega
          · have := hmin j (by omega) hwj; omega
        · simp only [c2, if_false, Option.bind_some, b00, if_true]
          refine ih (i + 1) m _ (by omega) (by omega) (Or.inr ⟨x, by omega, rfl, hw, ?_⟩)
          intro j hj hwj
          by_cases hji : j = i
          · subst hji; omega
          · exact hmin j (by omega) hwj
    · simp only [c1, if_false, Option.bind_some, b00, if_true]
      refine ih (i + 1) m _ (by omega) (by omega) ?_
      have c2 : wt T i = false := by simpa using c1
      rcases hb with ⟨rfl, hb⟩ | ⟨x, hx, rfl, hw, hmin⟩
      · refine Or.inl ⟨rfl, fun l hl => ?_⟩
        by_cases hji : l = i
        · subst hji; exact c2
        · exact hb l (by omega)
      · refine Or.inr ⟨x, by omega, rfl, hw, fun j hj hwj => ?_⟩
        by_cases hji : j = i
        · subst hji; exact absurd hwj c1
        · exact hmin j (by omega) hwj
theorem calledNow_eq {k n : Nat} {T : St} (h : RT k T) (hn : 7 ≤ n) : ∃ r, m_X9_calledNow n T = some r ∧ isCalled T k r := by
  have hk := h.1
  obtain ⟨r, h1, h2⟩ := calledNow_L h k 0 n (-1) (by omega) (by omega) (Or.inl ⟨rfl, fun l hl => absurd hl (by omega)⟩)
  refine ⟨r, ?_, h2⟩
  unfold m_X9_calledNow
  rw [show m_X9_calledNow_L4 n T (-1) 0 = some r from h1]
  rfl
/-! the class -/
theorem VR.size {ib ab k : Nat} {S T : St} (h : VR ib ab k S T) : S.1 (ib + 0) = nI k := h.2.2.2.2.2.1.1
theorem VR.cell {ib ab k : Nat} {S T : St} (h : VR ib ab k S T) {l : Nat} (hl : l < k) : S.2.1 (ab + 1) l = mt T l 0 ∧ S.2.1 (ab + 2) l = mt T l 1 ∧ S.2.1 (ab + 3) l = mt T l 5 ∧ S.2.1 (ab + 4) l = mt T l 6 ∧ S.2.1 (ab + 6) l = mt T l 4 ∧ S.2.1 (ab + 7) l = (if mt T l 2 = 0 then 1 else mt T l 2 + mt T l 3) ∧ ∀ t, t < 3 → S.2.1 (ab + 5) (3 * l + t) = mt T l (7 + t) := h.2.2.2.2.2.1.2.2.2.2.2.2.2 l hl
theorem VR.lot {ib ab k : Nat} {S T : St} (h : VR ib ab k S T) {l : Nat} (hl : l < k) : S.1 (11 + 2 * l) = T.2.1 5 l := (h.2.2.2.1 l hl).2.2.1
theorem VR.waits {ib ab k : Nat} {S T : St} (h : VR ib ab k S T) {l : Nat} (hl : l < k) : m_X4_waits ib ab S (nI l) = some (if wt T l = true then 1 else 0) := by
  rw [waits_eq (by have := h.1; omega), (h.cell hl).1, (h.cell hl).2.1]
  unfold wt
  simp only [decide_eq_true_eq]
theorem sooner_L {ib ab k l : Nat} {S T : St} (h : VR ib ab k S T) (hl : l < k) (x : Int32) : ∀ d i n a, i + d = k → d + 1 ≤ n → m_X4_sooner_L5 ib ab n S (nI l) x (nI a) (nI i) = some (nI (a + cntR (fun j => decide (j ≠ l) && (wt T j && decide (key T j < kyA T x l))) i d)) := by
  intro d
  induction d with
  | zero =>
    intro i n a hi hn
    obtain ⟨m, rfl⟩ : ∃ m, n = m + 1 := ⟨n - 1, by omega⟩
    unfold m_X4_sooner_L5
    rw [h.size, if_pos (by rw [leN (by have := h.1; omega) (by have := h.1; omega)]; omega)]
    rfl
  | succ d ih =>
    intro i n a hi hn
    obtain ⟨m, rfl⟩ : ∃ m, n = m + 1 := ⟨n - 1, by omega⟩
    have hk := h.1
    have ei : nI i + 1 = nI (i + 1) := by rw [lit32 1, nI_add]
    have ea : nI a + 1 = nI (a + 1) := by rw [lit32 1, nI_add]
    have hla := (h.rt.2.2 i (by omega)).1
    have hlb := (h.rt.2.2 l (by omega)).1
    have q1 := hla.1; have q2 := hla.2; have q3 := hlb.1; have q4 := hlb.2
    unfold m_X4_sooner_L5
    rw [h.size, if_neg (by rw [leN (by omega) (by omega)]; omega), h.waits (by omega : i < k), ifeqN (by omega) (by omega), ei, ea]
    show _ = some (nI (a + ((if (decide (i ≠ l) && (wt T i && decide (key T i < kyA T x l))) = true then 1 else 0) + cntR (fun j => decide (j ≠ l) && (wt T j && decide (key T j < kyA T x l))) (i + 1) d)))
    rw [ih (i + 1) m _ (by omega) (by omega), ih (i + 1) m _ (by omega) (by omega)]
    generalize cntR (fun j => decide (j ≠ l) && (wt T j && decide (key T j < kyA T x l))) (i + 1) d = C
    rw [ckN (by omega) (by omega), ckN (by omega) (by omega), ckN (by omega) (by omega), ckN (by omega) (by omega), clN (by omega), clN (by omega), h.lot (by omega : i < k), h.lot hl, (h.cell (by omega : i < k)).1]
    by_cases c0 : i = l
    · simp only [c0, if_true, ne_eq, not_true_eq_false, decide_false, Bool.false_and, Bool.false_eq_true, if_false]
      congr 2; omega
    · simp only [c0, if_false, ne_eq, not_false_eq_true, decide_true, Bool.true_and]
      by_cases c1 : wt T i = true
      · simp only [c1, if_true, Option.bind_some, b10, if_false, Bool.true_and]
        simp only [eq32, le32, decide_eq_true_eq]
        unfold key kyA
        by_cases c2 : (mt T i 0).toInt = x.toInt
        · rw [if_pos c2]
          by_cases c3 : (T.2.1 5 l).toInt ≤ (T.2.1 5 i).toInt
          · have c4 : ¬ (100 * (mt T i 0).toInt + (T.2.1 5 i).toInt < 100 * x.toInt + (T.2.1 5 l).toInt) := by omega
            simp only [if_pos c3, if_neg c4]; congr 2; omega
          · have c4 : (100 * (mt T i 0).toInt + (T.2.1 5 i).toInt < 100 * x.toInt + (T.2.1 5 l).toInt) := by omega
            simp only [if_neg c3, if_pos c4]; congr 2; omega
        · rw [if_neg c2]
          by_cases c3 : x.toInt ≤ (mt T i 0).toInt
          · have c4 : ¬ (100 * (mt T i 0).toInt + (T.2.1 5 i).toInt < 100 * x.toInt + (T.2.1 5 l).toInt) := by omega
            simp only [if_pos c3, if_neg c4]; congr 2; omega
          · have c4 : (100 * (mt T i 0).toInt + (T.2.1 5 i).toInt < 100 * x.toInt + (T.2.1 5 l).toInt) := by omega
            simp only [if_neg c3, if_pos c4]; congr 2; omega
      · simp only [c1, if_false, Option.bind_some, b00, if_true, Bool.false_and, Bool.false_eq_true]
        congr 2; omega
theorem sooner_eq {ib ab k l n : Nat} {S T : St} (h : VR ib ab k S T) (hl : l < k) (x : Int32) (hn : 7 ≤ n) : m_X4_sooner ib ab n S (nI l) x = some (nI (cntR (fun j => decide (j ≠ l) && (wt T j && decide (key T j < kyA T x l))) 0 k)) := by
  unfold m_X4_sooner
  rw [show m_X4_sooner_L5 ib ab n S (nI l) x 0 0 = _ from sooner_L h hl x k 0 n 0 (by omega) (by have := h.1; omega)]
  rw [Nat.zero_add]
  rfl
theorem sooner_rnk {ib ab k l n : Nat} {S T : St} (h : VR ib ab k S T) (hl : l < k) (hn : 7 ≤ n) : m_X4_sooner ib ab n S (nI l) (mt T l 0) = some (nI (rnk k (wt T) (key T) l)) := by
  rw [sooner_eq h hl _ hn]
  congr 2
  apply cntR_congr
  intro j _ _
  by_cases c : j = l
  · subst c
    simp [key]
  · simp only [ne_eq, c, not_false_eq_true, decide_true, Bool.true_and]
    rfl
theorem VR.inj {ib ab k : Nat} {S T : St} (h : VR ib ab k S T) : ∀ a b, a < k → b < k → a ≠ b → key T a ≠ key T b := by
  intro a b ha hb hab
  have hla := (h.rt.2.2 a ha).1
  have hlb := (h.rt.2.2 b hb).1
  have q1 := hla.1; have q2 := hla.2; have q3 := hlb.1; have q4 := hlb.2
  have h1 := h.2.2.2.2.1 a b ha hb hab
  rw [ne_eq, eq32] at h1
  unfold key kyA
  omega
theorem next_L {ib ab k : Nat} {S T : St} (h : VR ib ab k S T) : ∀ d i n, i + d = k → d + 8 ≤ n → (∀ j, j < i → ¬ (wt T j = true ∧ rnk k (wt T) (key T) j = 0)) → ∃ r, m_X4_next_L2 ib ab n S (nI i) = some r ∧ isCalled T k r := by
  intro d
  induction d with
  | zero =>
    intro i n hi hn hj
    obtain ⟨m, rfl⟩ : ∃ m, n = m + 1 := ⟨n - 1, by omega⟩
    have hk := h.1
    have : i = k := by omega
    subst this
    refine ⟨-1, ?_, Or.inl ⟨rfl, ?_⟩⟩
    · unfold m_X4_next_L2
      rw [h.size, if_pos (by rw [leN (by omega) (by omega)]; omega)]
    · intro l hl
      by_cases c : wt T l = true
      · exfalso
        have : 0 < cntR (wt T) 0 i := by
          by_cases hz : cntR (wt T) 0 i = 0
          · have := cntR_zero i 0 hz l (by omega) (by omega)
            rw [c] at this; exact absurd this (by decide)
          · omega
        obtain ⟨x, h1, h2, h3⟩ := rnk_onto h.inj this
        exact hj x h1 ⟨h2, h3⟩
      · simpa using c
  | succ d ih =>
    intro i n hi hn hj
    obtain ⟨m, rfl⟩ : ∃ m, n = m + 1 := ⟨n - 1, by omega⟩
    have hk := h.1
    have hnext : (¬ (wt T i = true ∧ rnk k (wt T) (key T) i = 0)) → ∃ r, m_X4_next_L2 ib ab m S (nI (i + 1)) = some r ∧ isCalled T k r := fun q => ih (i + 1) m (by omega) (by omega) (fun j h1 => by
      by_cases c : j = i
      · subst c; exact q
      · exact hj j (by omega))
    unfold m_X4_next_L2
    rw [h.size, if_neg (by rw [leN (by omega) (by omega)]; omega), h.waits (by omega : i < k), ckN (by omega) (by omega), clN (by omega), (h.cell (by omega : i < k)).1, sooner_rnk h (by omega) (by omega), s1 i]
    by_cases c1 : wt T i = true
    · simp only [c1, if_true, Option.bind_some, b10, if_false]
      have hr := rnk_lt_k (w := wt T) (ky := key T) (by omega : i < k)
      rw [if0N (by omega)]
      by_cases c2 : rnk k (wt T) (key T) i = 0
      · rw [if_pos c2]
        refine ⟨nI i, rfl, Or.inr ⟨i, by omega, rfl, c1, ?_⟩⟩
        intro j hj2 hwj
        have := cntR_zero k 0 c2 j (by omega) (by omega)
        simp only [hwj, Bool.true_and, decide_eq_false_iff_not] at this
        omega
      · rw [if_neg c2]
        exact hnext (fun q => c2 q.2)
    · simp only [c1, if_false, Option.bind_some, b00, if_true]
      exact hnext (fun q => c1 q.1)
theorem isCalled_uniq {ib ab k : Nat} {S T : St} (h : VR ib ab k S T) {r s : Int32} (hr : isCalled T k r) (hs : isCalled T k s) : r = s := by
  rcases hr with ⟨rfl, h1⟩ | ⟨i, hi, rfl, h1, h2⟩
  · rcases hs with ⟨rfl, h3⟩ | ⟨j, hj, rfl, h3, h4⟩
    · rfl
    · rw [h1 j hj] at h3; exact absurd h3 (by decide)
  · rcases hs with ⟨rfl, h3⟩ | ⟨j, hj, rfl, h3, h4⟩
    · rw [h3 i hi] at h1; exact absurd h1 (by decide)
    · by_cases c : i = j
      · rw [c]
      · exfalso
        have := h.inj i j hi hj c
        have := h2 j hj h3
        have := h4 i hi h1
        omega
/-- both call the same one -/
theorem called_same {ib ab k n n' : Nat} {S T : St} (h : VR ib ab k S T) (hn : 14 ≤ n) (hn' : 7 ≤ n') : ∃ r, m_X4_next ib ab n S = some r ∧ m_X9_calledNow n' T = some r ∧ isCalled T k r := by
  have hk := h.1
  obtain ⟨r, h1, h2⟩ := next_L h k 0 n (by omega) (by omega) (fun j hj => absurd hj (by omega))
  obtain ⟨s, h3, h4⟩ := calledNow_eq h.rt hn'
  have := isCalled_uniq h h2 h4
  subst this
  exact ⟨r, h1, h3, h2⟩
