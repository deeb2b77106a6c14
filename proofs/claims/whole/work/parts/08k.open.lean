/-! ===== layer B: a round, a lift, a meet begins ===== -/
/-- what a meet's own methods leave -/
def FrM (ib ab : Nat) (S S' : St) : Prop := (∀ i, (i < ib + 2 ∨ ib + 6 < i) → S'.1 i = S.1 i) ∧ (∀ a, (a < ab + 1 ∨ ab + 8 < a) → S'.2.1 a = S.2.1 a) ∧ S'.2.2 = S.2.2
theorem FrM.rfl {ib ab : Nat} (S : St) : FrM ib ab S S := ⟨fun _ _ => Eq.refl _, fun _ _ => Eq.refl _, Eq.refl _⟩
theorem FrM.trans {ib ab : Nat} {S S' S2 : St} (h : FrM ib ab S S') (g : FrM ib ab S' S2) : FrM ib ab S S2 := ⟨fun i a => (g.1 i a).trans (h.1 i a), fun i a => (g.2.1 i a).trans (h.2.1 i a), g.2.2.trans h.2.2⟩
def chgN (lift round : Nat) : Int32 := if lift < 3 then (if round = 0 then 1 else if lift = 2 ∧ round = 2 then 2 else 0) else 0
theorem chgN_rg (lift round : Nat) : Rg (chgN lift round) 0 2 := by
  unfold chgN
  split
  · split
    · exact ⟨by decide, by decide⟩
    · split
      · exact ⟨by decide, by decide⟩
      · exact ⟨by decide, by decide⟩
  · exact ⟨by decide, by decide⟩
theorem oRnd_L {ib ab : Nat} {v : Int32} : ∀ d i n S, i + d = 6 → d + 1 ≤ n → ∃ S', m_X4_openRound_L57 ib ab n S v (nI i) = some S' ∧ S'.1 = S.1 ∧ S'.2.2 = S.2.2 ∧ (∀ a, a ≠ ab + 2 → a ≠ ab + 3 → S'.2.1 a = S.2.1 a) ∧ (∀ j, i ≤ j → j < 6 → S'.2.1 (ab + 2) j = 0 ∧ S'.2.1 (ab + 3) j = v) ∧ (∀ j, j < i → S'.2.1 (ab + 2) j = S.2.1 (ab + 2) j ∧ S'.2.1 (ab + 3) j = S.2.1 (ab + 3) j) := by
  intro d
  induction d with
  | zero =>
    intro i n S hi hn
    obtain ⟨m, rfl⟩ : ∃ m, n = m + 1 := ⟨n - 1, by omega⟩
    refine ⟨S, ?_, rfl, rfl, fun _ _ _ => rfl, fun j h1 h2 => absurd h1 (by omega), fun _ _ => ⟨rfl, rfl⟩⟩
    unfold m_X4_openRound_L57
    rw [lit32 6, if_pos (by rw [leN (by omega) (by omega)]; omega)]
  | succ d ih =>
    intro i n S hi hn
    obtain ⟨m, rfl⟩ : ∃ m, n = m + 1 := ⟨n - 1, by omega⟩
    obtain ⟨S', e1, e2, e3, e4, e5, e6⟩ := ih (i + 1) m (sA (sA S (ab + 2) i 0) (ab + 3) i v) (by omega) (by omega)
    have c2 : ∀ j, (sA (sA S (ab + 2) i 0) (ab + 3) i v).2.1 (ab + 2) j = if j = i then 0 else S.2.1 (ab + 2) j := fun j => by
      rw [sA_row (by omega), sA_21, if_pos rfl]
    have c3 : ∀ j, (sA (sA S (ab + 2) i 0) (ab + 3) i v).2.1 (ab + 3) j = if j = i then v else S.2.1 (ab + 3) j := fun j => by
      rw [sA_21, if_pos rfl, sA_row (by omega)]
    refine ⟨S', ?_, e2, e3, ?_, ?_, ?_⟩
    · unfold m_X4_openRound_L57
      simp only [nmE]
      rw [lit32 6, if_neg (by rw [leN (by omega) (by omega)]; omega), ckN (by omega) (by omega), ckN (by omega) (by omega), clN (by omega), s1]
      exact e1
    · intro a h1 h2
      rw [e4 a h1 h2, sA_row h2, sA_row h1]
    · intro j h1 h2
      by_cases c : j = i
      · subst c
        rw [(e6 j (by omega)).1, (e6 j (by omega)).2, c2, c3, if_pos rfl, if_pos rfl]
        exact ⟨rfl, rfl⟩
      · exact e5 j (by omega) h2
    · intro j h1
      rw [(e6 j (by omega)).1, (e6 j (by omega)).2, c2, c3, if_neg (by omega), if_neg (by omega)]
      exact ⟨rfl, rfl⟩
theorem openRound8 {ib ab lift r n : Nat} {S : St} (hn : 7 ≤ n) (h1 : S.1 (ib + 2) = nI lift) (hl : lift ≤ 3) (hr : r ≤ 2) : ∃ S', m_X4_openRound ib ab n S (nI r) = some S' ∧ S'.1 (ib + 3) = nI r ∧ S'.1 (ib + 4) = 0 ∧ (∀ i, i ≠ ib + 3 → i ≠ ib + 4 → S'.1 i = S.1 i) ∧ S'.2.2 = S.2.2 ∧ (∀ a, a ≠ ab + 2 → a ≠ ab + 3 → S'.2.1 a = S.2.1 a) ∧ (∀ j, j < 6 → S'.2.1 (ab + 2) j = 0 ∧ S'.2.1 (ab + 3) j = chgN lift r) := by
  obtain ⟨S', e1, e2, e3, e4, e5, e6⟩ := oRnd_L (ib := ib) (ab := ab) (v := chgN lift r) 6 0 n (sI (sI S (ib + 3) (nI r)) (ib + 4) 0) (by omega) (by omega)
  refine ⟨S', ?_, ?_, ?_, ?_, e3, e4, fun j hj => e5 j (by omega) hj⟩
  · unfold m_X4_openRound
    simp only [nmE]
    have q2 : (sI (sI S (ib + 3) (nI r)) (ib + 4) 0).1 (ib + 2) = nI lift := by rw [sI_1, if_neg (by omega), sI_1, if_neg (by omega), h1]
    have q3 : (sI (sI S (ib + 3) (nI r)) (ib + 4) 0).1 (ib + 3) = nI r := by rw [sI_1, if_neg (by omega), sI_1, if_pos rfl]
    rw [q2, q3]
    have q4 : (if nI lift < 3 then (if nI r = 0 then some (1 : Int32) else (if nI lift = 2 then (if nI r = 2 then some 2 else some 0) else some 0)) else some 0) = some (chgN lift r) := by
      unfold chgN
      rw [lit32 3, lit32 2, ifltN (by omega) (by omega), if0N (by omega), ifeqN (by omega) (by omega), ifeqN (by omega) (by omega)]
      by_cases c1 : lift < 3
      · rw [if_pos c1, if_pos c1]
        by_cases c2 : r = 0
        · rw [if_pos c2, if_pos c2]
        · rw [if_neg c2, if_neg c2]
          by_cases c3 : lift = 2
          · rw [if_pos c3]
            by_cases c4 : r = 2
            · rw [if_pos c4, if_pos ⟨c3, c4⟩]
            · rw [if_neg c4, if_neg (fun q => c4 q.2)]
          · rw [if_neg c3, if_neg (fun q => c3 q.1)]
      · rw [if_neg c1, if_neg c1]
    rw [q4]
    simp only [Option.bind_some]
    rw [show m_X4_openRound_L57 ib ab n (sI (sI S (ib + 3) (nI r)) (ib + 4) 0) (chgN lift r) 0 = some S' from e1]
    rfl
  · rw [e2, sI_1, if_neg (by omega), sI_1, if_pos rfl]
  · rw [e2, sI_1, if_pos rfl]
  · intro i h1 h2
    rw [e2, sI_1, if_neg h2, sI_1, if_neg h1]
/-- what is asked as a lift begins -/
def askC (ab k lift : Nat) (S : St) (j : Nat) : Int32 := if j < k ∧ lift < 3 ∧ S.2.1 (ab + 4) j = 0 then S.2.1 (6 + 3 * j) (3 * lift) else 0
theorem oLift_L {ib ab k lift : Nat} (hab : 25 ≤ ab) (hk : k ≤ 6) (hl : lift ≤ 3) : ∀ d i n S, i + d = 6 → d + 1 ≤ n → S.1 (ib + 0) = nI k → S.1 (ib + 2) = nI lift → ∃ S', m_X4_openLift_L2 ib ab n S (nI i) = some S' ∧ S'.1 = S.1 ∧ S'.2.2 = S.2.2 ∧ (∀ a, a ≠ ab + 1 → a ≠ ab + 6 → a ≠ ab + 7 → S'.2.1 a = S.2.1 a) ∧ (∀ j, i ≤ j → j < 6 → S'.2.1 (ab + 1) j = askC ab k lift S j ∧ S'.2.1 (ab + 6) j = 0 ∧ S'.2.1 (ab + 7) j = 1) ∧ (∀ j, j < i → S'.2.1 (ab + 1) j = S.2.1 (ab + 1) j ∧ S'.2.1 (ab + 6) j = S.2.1 (ab + 6) j ∧ S'.2.1 (ab + 7) j = S.2.1 (ab + 7) j) := by
  intro d
  induction d with
  | zero =>
    intro i n S hi hn g0 g2
    obtain ⟨m, rfl⟩ : ∃ m, n = m + 1 := ⟨n - 1, by omega⟩
    refine ⟨S, ?_, rfl, rfl, fun _ _ _ _ => rfl, fun j h1 h2 => absurd h1 (by omega), fun _ _ => ⟨rfl, rfl, rfl⟩⟩
    unfold m_X4_openLift_L2
    rw [lit32 6, if_pos (by rw [leN (by omega) (by omega)]; omega)]
  | succ d ih =>
    intro i n S hi hn g0 g2
    obtain ⟨m, rfl⟩ : ∃ m, n = m + 1 := ⟨n - 1, by omega⟩
    have hS1 : ∀ j, askC ab k lift (sA (sA (sA S (ab + 1) i (askC ab k lift S i)) (ab + 6) i 0) (ab + 7) i 1) j = if j < 6 then askC ab k lift S j else askC ab k lift (sA (sA (sA S (ab + 1) i (askC ab k lift S i)) (ab + 6) i 0) (ab + 7) i 1) j := fun j => by
      by_cases c : j < 6
      · rw [if_pos c]
        unfold askC
        rw [sA_row (by omega), sA_row (by omega), sA_row (by omega), sA_row (by omega), sA_row (by omega), sA_row (by omega)]
      · rw [if_neg c]
    obtain ⟨S', e1, e2, e3, e4, e5, e6⟩ := ih (i + 1) m (sA (sA (sA S (ab + 1) i (askC ab k lift S i)) (ab + 6) i 0) (ab + 7) i 1) (by omega) (by omega) g0 g2
    have c1 : ∀ j, (sA (sA (sA S (ab + 1) i (askC ab k lift S i)) (ab + 6) i 0) (ab + 7) i 1).2.1 (ab + 1) j = if j = i then askC ab k lift S i else S.2.1 (ab + 1) j := fun j => by
      rw [sA_row (by omega), sA_row (by omega), sA_21, if_pos rfl]
    have c6 : ∀ j, (sA (sA (sA S (ab + 1) i (askC ab k lift S i)) (ab + 6) i 0) (ab + 7) i 1).2.1 (ab + 6) j = if j = i then 0 else S.2.1 (ab + 6) j := fun j => by
      rw [sA_row (by omega), sA_21, if_pos rfl, sA_row (by omega)]
    have c7 : ∀ j, (sA (sA (sA S (ab + 1) i (askC ab k lift S i)) (ab + 6) i 0) (ab + 7) i 1).2.1 (ab + 7) j = if j = i then 1 else S.2.1 (ab + 7) j := fun j => by
      rw [sA_21, if_pos rfl, sA_row (by omega), sA_row (by omega)]
    refine ⟨S', ?_, e2, e3, ?_, ?_, ?_⟩
    · unfold m_X4_openLift_L2
      simp only [nmE]
      have q : ((if nI k ≤ nI i then (some 0) else (if 3 ≤ nI lift then (some 0) else (ck (nI i) 6 (if (S.2.1 (ab + 4) i) = 0 then (some 1) else (some 0)))) : Option (Int32)).bind (fun q5 => (if q5 = 0 then (some 0) else (ck (nI i) 7 (ck (nI lift * 3) 9 (some (S.2.1 (6 + 3 * i) (nI lift * 3).toNatClampNeg)))) : Option (Int32)))) = some (askC ab k lift S i) := by
        unfold askC
        rw [lit32 3, ifleN (by omega) (by omega), ifleN (by omega) (by omega), ckN (by omega) (by omega), pk_mul, Nat.mul_comm lift 3]
        by_cases d1 : k ≤ i
        · rw [if_pos d1, if_neg (by omega)]; rfl
        · rw [if_neg d1]
          by_cases d2 : 3 ≤ lift
          · rw [if_pos d2, if_neg (by omega)]; rfl
          · rw [if_neg d2, ckN (by omega) (by omega), ckN (by omega) (by omega), clN (by omega)]
            by_cases d3 : S.2.1 (ab + 4) i = 0
            · rw [if_pos d3, if_pos ⟨by omega, by omega, d3⟩]; rfl
            · rw [if_neg d3, if_neg (fun q => d3 q.2.2)]; rfl
      rw [lit32 6, if_neg (by rw [leN (by omega) (by omega)]; omega), g0, g2, clN (by omega)]
      rw [← Option.bind_assoc, q]
      simp only [Option.bind_some]
      rw [ckN (by omega) (by omega), ckN (by omega) (by omega), ckN (by omega) (by omega), s1]
      exact e1
    · intro a h1 h2 h3
      rw [e4 a h1 h2 h3, sA_row h3, sA_row h2, sA_row h1]
    · intro j h1 h2
      by_cases c : j = i
      · subst c
        rw [(e6 j (by omega)).1, (e6 j (by omega)).2.1, (e6 j (by omega)).2.2, c1, c6, c7, if_pos rfl, if_pos rfl, if_pos rfl]
        exact ⟨rfl, rfl, rfl⟩
      · have := e5 j (by omega) h2
        rw [hS1 j, if_pos h2] at this
        exact this
    · intro j h1
      rw [(e6 j (by omega)).1, (e6 j (by omega)).2.1, (e6 j (by omega)).2.2, c1, c6, c7, if_neg (by omega), if_neg (by omega), if_neg (by omega)]
      exact ⟨rfl, rfl, rfl⟩
theorem openLift8 {ib ab k lift n : Nat} {S : St} (hab : 25 ≤ ab) (hk : k ≤ 6) (hn : 8 ≤ n) (hl : lift ≤ 3) (g0 : S.1 (ib + 0) = nI k) (g2 : S.1 (ib + 2) = nI lift) : ∃ S', m_X4_openLift ib ab n S = some S' ∧ S'.1 (ib + 3) = 0 ∧ S'.1 (ib + 4) = 0 ∧ (∀ i, i ≠ ib + 3 → i ≠ ib + 4 → S'.1 i = S.1 i) ∧ S'.2.2 = S.2.2 ∧ (∀ a, a ≠ ab + 1 → a ≠ ab + 2 → a ≠ ab + 3 → a ≠ ab + 6 → a ≠ ab + 7 → S'.2.1 a = S.2.1 a) ∧ (∀ j, j < 6 → S'.2.1 (ab + 1) j = askC ab k lift S j ∧ S'.2.1 (ab + 2) j = 0 ∧ S'.2.1 (ab + 3) j = chgN lift 0 ∧ S'.2.1 (ab + 6) j = 0 ∧ S'.2.1 (ab + 7) j = 1) := by
  obtain ⟨S1, e1, e2, e3, e4, e5, e6⟩ := oLift_L (ib := ib) hab hk hl 6 0 n S (by omega) (by omega) g0 g2
  obtain ⟨S2, f1, f2, f3, f4, f5, f6, f7⟩ := openRound8 (ib := ib) (ab := ab) (lift := lift) (r := 0) (n := n) (S := S1) (by omega) (by rw [e2, g2]) hl (by omega)
  refine ⟨S2, ?_, f2, f3, ?_, ?_, ?_, ?_⟩
  · unfold m_X4_openLift
    rw [show m_X4_openLift_L2 ib ab n S 0 = some S1 from e1]
    simp only [Option.bind_some]
    rw [show m_X4_openRound ib ab n S1 0 = some S2 from f1]
    rfl
  · intro i h1 h2
    rw [f4 i h1 h2, e2]
  · rw [f5, e3]
  · intro a h1 h2 h3 h6 h7
    rw [f6 a h2 h3, e4 a h1 h6 h7]
  · intro j hj
    obtain ⟨p1, p2, p3⟩ := e5 j (by omega) hj
    refine ⟨?_, (f7 j hj).1, (f7 j hj).2, ?_, ?_⟩
    · rw [f6 (ab + 1) (by omega) (by omega)]; exact p1
    · rw [f6 (ab + 6) (by omega) (by omega)]; exact p2
    · rw [f6 (ab + 7) (by omega) (by omega)]; exact p3
theorem cLift_L {ib ab k lift : Nat} (hk : k ≤ 6) (hl : lift < 3) : ∀ d i n S, i + d = k → d + 1 ≤ n → S.1 (ib + 0) = nI k → S.1 (ib + 2) = nI lift → ∃ S', m_X4_closeLift_L2 ib ab n S (nI i) = some S' ∧ S'.1 = S.1 ∧ S'.2.2 = S.2.2 ∧ (∀ a, a ≠ ab + 4 → S'.2.1 a = S.2.1 a) ∧ (∀ j, S'.2.1 (ab + 4) j = if i ≤ j ∧ j < k ∧ S.2.1 (ab + 5) (3 * j + lift) = 0 then 1 else S.2.1 (ab + 4) j) := by
  intro d
  induction d with
  | zero =>
    intro i n S hi hn g0 g2
    obtain ⟨m, rfl⟩ : ∃ m, n = m + 1 := ⟨n - 1, by omega⟩
    refine ⟨S, ?_, rfl, rfl, fun _ _ => rfl, fun j => by rw [if_neg (by omega)]⟩
    unfold m_X4_closeLift_L2
    rw [g0, if_pos (by rw [leN (by omega) (by omega)]; omega)]
  | succ d ih =>
    intro i n S hi hn g0 g2
    obtain ⟨m, rfl⟩ : ∃ m, n = m + 1 := ⟨n - 1, by omega⟩
    unfold m_X4_closeLift_L2
    simp only [nmE]
    rw [g0, g2, if_neg (by rw [leN (by omega) (by omega)]; omega), show nI i * 3 + nI lift = nI (3 * i + lift) by rw [lit32 3, pk_mul, nI_add, Nat.mul_comm], ckN (by omega) (by omega), ckN (by omega) (by omega), clN (by omega), clN (by omega), s1]
    by_cases c : S.2.1 (ab + 5) (3 * i + lift) = 0
    · rw [if_pos c]
      obtain ⟨S', e1, e2, e3, e4, e5⟩ := ih (i + 1) m (sA S (ab + 4) i 1) (by omega) (by omega) g0 g2
      refine ⟨S', e1, e2, e3, ?_, ?_⟩
      · intro a ha
        rw [e4 a ha, sA_row ha]
      · intro j
        rw [e5 j, sA_row (by omega), sA_21, if_pos rfl]
        by_cases cj : j = i
        · subst cj
          rw [if_neg (by omega), if_pos rfl, if_pos ⟨by omega, by omega, c⟩]
        · rw [if_neg cj]
          by_cases c2 : i + 1 ≤ j ∧ j < k ∧ S.2.1 (ab + 5) (3 * j + lift) = 0
          · rw [if_pos c2, if_pos ⟨by omega, c2.2⟩]
          · rw [if_neg c2, if_neg (fun q => c2 ⟨by omega, q.2⟩)]
    · rw [if_neg c]
      obtain ⟨S', e1, e2, e3, e4, e5⟩ := ih (i + 1) m S (by omega) (by omega) g0 g2
      refine ⟨S', e1, e2, e3, e4, ?_⟩
      intro j
      rw [e5 j]
      by_cases c2 : i + 1 ≤ j ∧ j < k ∧ S.2.1 (ab + 5) (3 * j + lift) = 0
      · rw [if_pos c2, if_pos ⟨by omega, c2.2⟩]
      · rw [if_neg c2, if_neg]
        intro q
        by_cases cj : j = i
        · subst cj; exact c q.2.2
        · exact c2 ⟨by omega, q.2⟩
theorem open17_L {ib ab : Nat} : ∀ d i n S, i + d = 6 → d + 1 ≤ n → ∃ S', m_X4_open_L17 ib ab n S (nI i) = some S' ∧ S'.1 = S.1 ∧ S'.2.2 = S.2.2 ∧ (∀ a, a ≠ ab + 4 → S'.2.1 a = S.2.1 a) ∧ (∀ j, i ≤ j → j < 6 → S'.2.1 (ab + 4) j = 0) ∧ (∀ j, j < i → S'.2.1 (ab + 4) j = S.2.1 (ab + 4) j) := by
  intro d
  induction d with
  | zero =>
    intro i n S hi hn
    obtain ⟨m, rfl⟩ : ∃ m, n = m + 1 := ⟨n - 1, by omega⟩
    refine ⟨S, ?_, rfl, rfl, fun _ _ => rfl, fun j h1 h2 => absurd h1 (by omega), fun _ _ => rfl⟩
    unfold m_X4_open_L17
    rw [lit32 6, if_pos (by rw [leN (by omega) (by omega)]; omega)]
  | succ d ih =>
    intro i n S hi hn
    obtain ⟨m, rfl⟩ : ∃ m, n = m + 1 := ⟨n - 1, by omega⟩
    obtain ⟨S', e1, e2, e3, e4, e5, e6⟩ := ih (i + 1) m (sA S (ab + 4) i 0) (by omega) (by omega)
    refine ⟨S', ?_, e2, e3, ?_, ?_, ?_⟩
    · unfold m_X4_open_L17
      simp only [nmE]
      rw [lit32 6, if_neg (by rw [leN (by omega) (by omega)]; omega), ckN (by omega) (by omega), clN (by omega), s1]
      exact e1
    · intro a h1
      rw [e4 a h1, sA_row h1]
    · intro j h1 h2
      by_cases c : j = i
      · subst c
        rw [e6 j (by omega), sA_21, if_pos rfl, if_pos rfl]
      · exact e5 j (by omega) h2
    · intro j h1
      rw [e6 j (by omega), sA_21, if_pos rfl, if_neg (by omega)]
theorem open38_L {ib ab : Nat} : ∀ d i n S, i + d = 18 → d + 1 ≤ n → ∃ S', m_X4_open_L38 ib ab n S (nI i) = some S' ∧ S'.1 = S.1 ∧ S'.2.2 = S.2.2 ∧ (∀ a, a ≠ ab + 5 → S'.2.1 a = S.2.1 a) ∧ (∀ j, i ≤ j → j < 18 → S'.2.1 (ab + 5) j = 0) ∧ (∀ j, j < i → S'.2.1 (ab + 5) j = S.2.1 (ab + 5) j) := by
  intro d
  induction d with
  | zero =>
    intro i n S hi hn
    obtain ⟨m, rfl⟩ : ∃ m, n = m + 1 := ⟨n - 1, by omega⟩
    refine ⟨S, ?_, rfl, rfl, fun _ _ => rfl, fun j h1 h2 => absurd h1 (by omega), fun _ _ => rfl⟩
    unfold m_X4_open_L38
    rw [lit32 18, if_pos (by rw [leN (by omega) (by omega)]; omega)]
  | succ d ih =>
    intro i n S hi hn
    obtain ⟨m, rfl⟩ : ∃ m, n = m + 1 := ⟨n - 1, by omega⟩
    obtain ⟨S', e1, e2, e3, e4, e5, e6⟩ := ih (i + 1) m (sA S (ab + 5) i 0) (by omega) (by omega)
    refine ⟨S', ?_, e2, e3, ?_, ?_, ?_⟩
    · unfold m_X4_open_L38
      simp only [nmE]
      rw [lit32 18, if_neg (by rw [leN (by omega) (by omega)]; omega), ckN (by omega) (by omega), clN (by omega), s1]
      exact e1
    · intro a h1
      rw [e4 a h1, sA_row h1]
    · intro j h1 h2
      by_cases c : j = i
      · subst c
        rw [e6 j (by omega), sA_21, if_pos rfl, if_pos rfl]
      · exact e5 j (by omega) h2
    · intro j h1
      rw [e6 j (by omega), sA_21, if_pos rfl, if_neg (by omega)]
/-! the reference -/
def chgT (T : St) : Int32 := if T.2.1 11 0 = 3 then 0 else if T.2.1 11 1 = 0 then 1 else if T.2.1 11 1 = 2 ∧ T.2.1 11 0 = 2 then 2 else 0
theorem chg9 (T : St) : ((m_X9_isOver T).bind (fun r9 => ((if r9 = 0 then ((m_X9_changesAtFirst T).bind (fun r16 => some r16)) else (some 0) : Option (Int32))))) = some (chgT T) := by
  rw [isOver_eq]
  unfold m_X9_changesAtFirst chgT
  rw [show ∀ x : Option Int32, ck 1 63 x = x from fun x => rfl, show ∀ x : Option Int32, ck 1 63 x = x from fun x => rfl, show ∀ x : Option Int32, ck 0 63 x = x from fun x => rfl, show (1 : Int32).toNatClampNeg = 1 from rfl, show (0 : Int32).toNatClampNeg = 0 from rfl]
  by_cases c1 : T.2.1 11 0 = 3
  · rw [if_pos c1, if_pos c1]; rfl
  · rw [if_neg c1, if_neg c1]
    simp only [Option.bind_some, b00, if_true]
    by_cases c2 : T.2.1 11 1 = 0
    · rw [if_pos c2, if_pos c2]; rfl
    · rw [if_neg c2, if_neg c2]
      by_cases c3 : T.2.1 11 1 = 2
      · rw [if_pos c3]
        by_cases c4 : T.2.1 11 0 = 2
        · rw [if_pos c4, if_pos ⟨c3, c4⟩]; rfl
        · rw [if_neg c4, if_neg (fun q => c4 q.2)]; rfl
      · rw [if_neg c3, if_neg (fun q => c3 q.1)]; rfl
theorem chgT_eq {T : St} {lift r : Nat} (h0 : T.2.1 11 0 = nI lift) (h1 : T.2.1 11 1 = nI r) (hl : lift ≤ 3) (hr : r ≤ 2) : chgT T = chgN lift r := by
  unfold chgT chgN
  rw [h0, h1, lit32 3, lit32 2, ifeqN (by omega) (by omega), if0N (by omega)]
  by_cases c1 : lift = 3
  · rw [if_pos c1, if_neg (by omega)]
  · rw [if_neg c1, if_pos (show lift < 3 by omega)]
    by_cases c2 : r = 0
    · rw [if_pos c2, if_pos c2]
    · rw [if_neg c2, if_neg c2]
      by_cases c3 : r = 2 ∧ lift = 2
      · rw [if_pos (show nI r = nI 2 ∧ nI lift = nI 2 from ⟨by rw [c3.1], by rw [c3.2]⟩), if_pos (show lift = 2 ∧ r = 2 from ⟨c3.2, c3.1⟩)]
      · rw [if_neg (show ¬ (nI r = nI 2 ∧ nI lift = nI 2) from fun q => c3 ⟨by have := q.1; rw [eqN (by omega) (by omega)] at this; exact this, by have := q.2; rw [eqN (by omega) (by omega)] at this; exact this⟩), if_neg (show ¬ (lift = 2 ∧ r = 2) from fun q => c3 ⟨q.2, q.1⟩)]
/-- only the meet's row is changed, from its fourth cell on -/
def FrL (T T' : St) : Prop := T'.1 = T.1 ∧ T'.2.2 = T.2.2 ∧ (∀ a, a ≠ 11 → T'.2.1 a = T.2.1 a) ∧ ∀ x, x < 3 → T'.2.1 11 x = T.2.1 11 x
theorem FrL.rfl (T : St) : FrL T T := ⟨Eq.refl _, Eq.refl _, fun _ _ => Eq.refl _, fun _ _ => Eq.refl _⟩
theorem FrL.trans {S S' S2 : St} (h : FrL S S') (g : FrL S' S2) : FrL S S2 := ⟨g.1.trans h.1, g.2.1.trans h.2.1, fun i a => (g.2.2.1 i a).trans (h.2.2.1 i a), fun i a => (g.2.2.2 i a).trans (h.2.2.2 i a)⟩
theorem FrL.set {T T' : St} (h : FrL T T') (l w : Nat) (v : Int32) : FrL T (sA T' 11 (3 + 10 * l + w) v) := ⟨h.1, h.2.1, fun a ha => (sA_row ha).trans (h.2.2.1 a ha), fun x hx => by rw [sA_21, if_pos (Eq.refl _), if_neg (by omega)]; exact h.2.2.2 x hx⟩
theorem rBeg_L {k : Nat} (hk : k ≤ 6) : ∀ d i n T, i + d = k → d + 1 ≤ n → T.1 3 = nI k → ∃ T', m_X9_roundBegins_L9 n T (nI i) = some T' ∧ FrL T T' ∧ (∀ l w, w < 10 → mt T' l w = if i ≤ l ∧ l < k ∧ w = 1 then 0 else if i ≤ l ∧ l < k ∧ w = 5 then chgT T else mt T l w) := by
  intro d
  induction d with
  | zero =>
    intro i n T hi hn g3
    obtain ⟨m, rfl⟩ : ∃ m, n = m + 1 := ⟨n - 1, by omega⟩
    refine ⟨T, ?_, FrL.rfl T, fun l w hw => by rw [if_neg (by omega), if_neg (by omega)]⟩
    unfold m_X9_roundBegins_L9
    rw [g3, if_pos (by rw [leN (by omega) (by omega)]; omega)]
  | succ d ih =>
    intro i n T hi hn g3
    obtain ⟨m, rfl⟩ : ∃ m, n = m + 1 := ⟨n - 1, by omega⟩
    have hF := ((FrL.rfl T).set i 1 0).set i 5 (chgT T)
    obtain ⟨T', e1, e2, e3⟩ := ih (i + 1) m (sA (sA T 11 (3 + 10 * i + 1) 0) 11 (3 + 10 * i + 5) (chgT T)) (by omega) (by omega) g3
    have hcc : ∀ X, FrL T X → chgT X = chgT T := fun X q => by
      unfold chgT
      rw [q.2.2.2 0 (by omega), q.2.2.2 1 (by omega)]
    have hc1 : chgT (sA T 11 (3 + 10 * i + 1) 0) = chgT T := hcc _ ((FrL.rfl T).set i 1 0)
    have hc2 : chgT (sA (sA T 11 (3 + 10 * i + 1) 0) 11 (3 + 10 * i + 5) (chgT T)) = chgT T := hcc _ hF
    refine ⟨T', ?_, hF.trans e2, ?_⟩
    · unfold m_X9_roundBegins_L9
      rw [g3, if_neg (by rw [leN (by omega) (by omega)]; omega), sets1 0 (by omega)]
      simp only [Option.bind_some]
      rw [← Option.bind_assoc, chg9, hc1]
      simp only [Option.bind_some]
      rw [sets5 _ (by omega), s1]
      exact e1
    · intro l w hw
      rw [e3 l w hw, hc2, mt_set (by omega) hw, mt_set (by omega) hw]
      by_cases d1 : i + 1 ≤ l ∧ l < k ∧ w = 1
      · rw [if_pos d1, if_pos (show i ≤ l ∧ l < k ∧ w = 1 by omega)]
      · rw [if_neg d1]
        by_cases d2 : i + 1 ≤ l ∧ l < k ∧ w = 5
        · rw [if_pos d2, if_neg (show ¬ (i ≤ l ∧ l < k ∧ w = 1) by omega), if_pos (show i ≤ l ∧ l < k ∧ w = 5 by omega)]
        · rw [if_neg d2]
          by_cases d3 : l = i ∧ w = 5
          · rw [if_pos d3, if_neg (show ¬ (i ≤ l ∧ l < k ∧ w = 1) by omega), if_pos (show i ≤ l ∧ l < k ∧ w = 5 by omega)]
          · rw [if_neg d3]
            by_cases d4 : l = i ∧ w = 1
            · rw [if_pos d4, if_pos (show i ≤ l ∧ l < k ∧ w = 1 by omega)]
            · rw [if_neg d4, if_neg (show ¬ (i ≤ l ∧ l < k ∧ w = 1) by omega), if_neg (show ¬ (i ≤ l ∧ l < k ∧ w = 5) by omega)]
theorem roundBegins9 {k n lift r : Nat} {T : St} (hk : k ≤ 6) (hn : 7 ≤ n) (g3 : T.1 3 = nI k) (h0 : T.2.1 11 0 = nI lift) (h1 : T.2.1 11 1 = nI r) (hl : lift ≤ 3) (hr : r ≤ 2) : ∃ T', m_X9_roundBegins n T = some T' ∧ T'.1 = T.1 ∧ T'.2.2 = T.2.2 ∧ (∀ a, a ≠ 11 → T'.2.1 a = T.2.1 a) ∧ T'.2.1 11 0 = nI lift ∧ T'.2.1 11 1 = nI r ∧ T'.2.1 11 2 = 0 ∧ (∀ l w, w < 10 → mt T' l w = if l < k ∧ w = 1 then 0 else if l < k ∧ w = 5 then chgN lift r else mt T l w) := by
  have q : ∀ x, x ≠ 2 → (sA T 11 2 0).2.1 11 x = T.2.1 11 x := fun x hx => by rw [sA_21, if_pos rfl, if_neg hx]
  obtain ⟨T', e1, e2, e3⟩ := rBeg_L hk k 0 n (sA T 11 2 0) (by omega) (by omega) g3
  have hc : chgT (sA T 11 2 0) = chgN lift r := chgT_eq (by rw [q 0 (by omega), h0]) (by rw [q 1 (by omega), h1]) hl hr
  refine ⟨T', ?_, e2.1, e2.2.1, fun a ha => (e2.2.2.1 a ha).trans (sA_row ha), ?_, ?_, ?_, ?_⟩
  · unfold m_X9_roundBegins
    simp only [nmE]
    rw [show ∀ x : Option St, ck 2 63 x = x from fun x => rfl, show (2 : Int32).toNatClampNeg = 2 from rfl, show m_X9_roundBegins_L9 n (sA T 11 2 0) 0 = some T' from e1]
    rfl
  · rw [e2.2.2.2 0 (by omega), q 0 (by omega), h0]
  · rw [e2.2.2.2 1 (by omega), q 1 (by omega), h1]
  · rw [e2.2.2.2 2 (by omega), sA_21, if_pos rfl, if_pos rfl]
  · intro l w hw
    rw [e3 l w hw, hc]
    have : mt (sA T 11 2 0) l w = mt T l w := q (3 + 10 * l + w) (by omega)
    rw [this]
    by_cases d1 : l < k ∧ w = 1
    · rw [if_pos d1, if_pos (show 0 ≤ l ∧ l < k ∧ w = 1 by omega)]
    · rw [if_neg d1, if_neg (show ¬ (0 ≤ l ∧ l < k ∧ w = 1) by omega)]
      by_cases d2 : l < k ∧ w = 5
      · rw [if_pos d2, if_pos (show 0 ≤ l ∧ l < k ∧ w = 5 by omega)]
      · rw [if_neg d2, if_neg (show ¬ (0 ≤ l ∧ l < k ∧ w = 5) by omega)]
/-- what is asked as a lift begins -/
def askR (T : St) (lift l : Nat) : Int32 := if lift < 3 ∧ ¬ mt T l 6 = 1 then T.2.1 9 (3 * (3 * l + lift)) else 0
theorem ask9 {T : St} {lift l : Nat} (hl6 : l < 6) (h0 : T.2.1 11 0 = nI lift) (hl : lift ≤ 3) : ((m_X9_isOver T).bind (fun r7 => ((if r7 = 0 then ((m_X9_isOut T (nI l)).bind (fun r20 => if r20 = 0 then (ck 0 63 ((m_X9_planOf T (nI l) (T.2.1 11 ((0 : Int32).toNatClampNeg)) 0).bind (fun r24 => some r24))) else (some 0))) else (some 0) : Option (Int32))))) = some (askR T lift l) := by
  rw [isOver_eq, isOut_eq hl6, show ∀ x : Option Int32, ck 0 63 x = x from fun x => rfl, show (0 : Int32).toNatClampNeg = 0 from rfl, h0, lit32 3, ifeqN (by omega) (by omega)]
  by_cases c1 : lift = 3
  · rw [if_pos c1]
    show some (0 : Int32) = some (askR T lift l)
    unfold askR
    rw [if_neg (show ¬ (lift < 3 ∧ ¬ mt T l 6 = 1) by omega)]
  · rw [if_neg c1]
    simp only [Option.bind_some, b00, if_true]
    rw [show m_X9_planOf T (nI l) (nI lift) 0 = _ from planOf9 (w := 0) hl6 (by omega) (by omega)]
    unfold askR
    by_cases c2 : mt T l 6 = 1
    · rw [if_pos c2, if_neg (show ¬ (1 : Int32) = 0 by decide), if_neg (show ¬ (lift < 3 ∧ ¬ mt T l 6 = 1) from fun q => q.2 c2)]
    · rw [if_neg c2, if_pos rfl, if_pos (show lift < 3 ∧ ¬ mt T l 6 = 1 from ⟨by omega, c2⟩)]; rfl
def lbV (T : St) (lift l w : Nat) : Int32 := if w = 0 then askR T lift l else if w = 2 ∨ w = 3 ∨ w = 4 then 0 else mt T l w
theorem lbV_congr {X T : St} {lift l w : Nat} (h1 : mt X l 6 = mt T l 6) (h2 : X.2.1 9 = T.2.1 9) (h3 : mt X l w = mt T l w) : lbV X lift l w = lbV T lift l w := by
  unfold lbV askR
  rw [h1, h2, h3]
theorem lBeg_L {k lift : Nat} (hk : k ≤ 6) (hl : lift ≤ 3) : ∀ d i n T, i + d = k → d + 1 ≤ n → T.1 3 = nI k → T.2.1 11 0 = nI lift → ∃ T', m_X9_liftBegins_L9 n T (nI i) = some T' ∧ FrL T T' ∧ (∀ l w, w < 10 → mt T' l w = if i ≤ l ∧ l < k then lbV T lift l w else mt T l w) := by
  intro d
  induction d with
  | zero =>
    intro i n T hi hn g3 h0
    obtain ⟨m, rfl⟩ : ∃ m, n = m + 1 := ⟨n - 1, by omega⟩
    refine ⟨T, ?_, FrL.rfl T, fun l w hw => by rw [if_neg (by omega)]⟩
    unfold m_X9_liftBegins_L9
    rw [g3, if_pos (by rw [leN (by omega) (by omega)]; omega)]
  | succ d ih =>
    intro i n T hi hn g3 h0
    obtain ⟨m, rfl⟩ : ∃ m, n = m + 1 := ⟨n - 1, by omega⟩
    have hF := ((((FrL.rfl T).set i 0 (askR T lift i)).set i 2 0).set i 3 0).set i 4 0
    have hm : ∀ l w, w < 10 → mt (sA (sA (sA (sA T 11 (3 + 10 * i + 0) (askR T lift i)) 11 (3 + 10 * i + 2) 0) 11 (3 + 10 * i + 3) 0) 11 (3 + 10 * i + 4) 0) l w = if l = i then lbV T lift i w else mt T l w := fun l w hw => by
      rw [mt_set (by omega) hw, mt_set (by omega) hw, mt_set (by omega) hw, mt_set (by omega) hw]
      unfold lbV
      by_cases c : l = i
      · subst c
        simp only [true_and, if_true]
        by_cases c0 : w = 0
        · subst c0; rfl
        · rw [if_neg c0, if_neg c0]
          by_cases c2 : w = 2
          · subst c2; rfl
          · by_cases c3 : w = 3
            · subst c3; rfl
            · by_cases c4 : w = 4
              · subst c4; rfl
              · rw [if_neg c4, if_neg c3, if_neg c2, if_neg (by omega)]
      · simp only [c, false_and, if_false]
    obtain ⟨T', e1, e2, e3⟩ := ih (i + 1) m (sA (sA (sA (sA T 11 (3 + 10 * i + 0) (askR T lift i)) 11 (3 + 10 * i + 2) 0) 11 (3 + 10 * i + 3) 0) 11 (3 + 10 * i + 4) 0) (by omega) (by omega) g3 ((hF.2.2.2 0 (by omega)).trans h0)
    refine ⟨T', ?_, hF.trans e2, ?_⟩
    · unfold m_X9_liftBegins_L9
      rw [g3, if_neg (by rw [leN (by omega) (by omega)]; omega), ← Option.bind_assoc, ask9 (by omega) h0 hl]
      simp only [Option.bind_some]
      rw [sets0 _ (by omega)]
      simp only [Option.bind_some]
      rw [sets2 _ (by omega)]
      simp only [Option.bind_some]
      rw [sets3 _ (by omega)]
      simp only [Option.bind_some]
      rw [sets4 _ (by omega)]
      simp only [Option.bind_some]
      rw [s1]
      exact e1
    · intro l w hw
      rw [e3 l w hw]
      by_cases c : l = i
      · subst c
        rw [if_neg (by omega), hm l w hw, if_pos rfl, if_pos (by omega)]
      · by_cases c2 : i + 1 ≤ l ∧ l < k
        · rw [if_pos c2, if_pos (show i ≤ l ∧ l < k by omega)]
          exact lbV_congr (by rw [hm l 6 (by omega), if_neg c]) (hF.2.2.1 9 (by omega)) (by rw [hm l w hw, if_neg c])
        · rw [if_neg c2, if_neg (show ¬ (i ≤ l ∧ l < k) by omega), hm l w hw, if_neg c]
theorem liftBegins9 {k n lift : Nat} {T : St} (hk : k ≤ 6) (hn : 8 ≤ n) (g3 : T.1 3 = nI k) (h0 : T.2.1 11 0 = nI lift) (hl : lift ≤ 3) : ∃ T', m_X9_liftBegins n T = some T' ∧ T'.1 = T.1 ∧ T'.2.2 = T.2.2 ∧ (∀ a, a ≠ 11 → T'.2.1 a = T.2.1 a) ∧ T'.2.1 11 0 = nI lift ∧ T'.2.1 11 1 = 0 ∧ T'.2.1 11 2 = 0 ∧ (∀ l w, w < 10 → mt T' l w = if l < k then (if w = 1 then 0 else if w = 5 then chgN lift 0 else lbV T lift l w) else mt T l w) := by
  have q : ∀ x, x ≠ 1 → (sA T 11 1 0).2.1 11 x = T.2.1 11 x := fun x hx => by rw [sA_21, if_pos rfl, if_neg hx]
  obtain ⟨T1, e1, e2, e3⟩ := lBeg_L hk hl k 0 n (sA T 11 1 0) (by omega) (by omega) g3 (by rw [q 0 (by omega), h0])
  obtain ⟨T', f1, f2, f3, f4, f5, f6, f7, f8⟩ := roundBegins9 (n := n) (lift := lift) (r := 0) (T := T1) hk (by omega) (by rw [e2.1]; exact g3) (by rw [e2.2.2.2 0 (by omega), q 0 (by omega), h0]) (by rw [e2.2.2.2 1 (by omega), sA_21, if_pos rfl, if_pos rfl]; rfl) hl (by omega)
  refine ⟨T', ?_, by rw [f2, e2.1]; rfl, by rw [f3, e2.2.1]; rfl, fun a ha => by rw [f4 a ha, e2.2.2.1 a ha, sA_row ha], f5, f6, f7, ?_⟩
  · unfold m_X9_liftBegins
    simp only [nmE]
    rw [show ∀ x : Option St, ck 1 63 x = x from fun x => rfl, show (1 : Int32).toNatClampNeg = 1 from rfl, show m_X9_liftBegins_L9 n (sA T 11 1 0) 0 = some T1 from e1]
    simp only [Option.bind_some]
    rw [f1]
    rfl
  · intro l w hw
    rw [f8 l w hw, e3 l w hw]
    have hq : ∀ w, mt (sA T 11 1 0) l w = mt T l w := fun w => q (3 + 10 * l + w) (by omega)
    have hlb : lbV (sA T 11 1 0) lift l w = lbV T lift l w := by
      unfold lbV askR
      rw [hq w, hq 6, sA_row (by omega)]
    rw [hlb, hq w]
    by_cases c : l < k
    · rw [if_pos c, if_pos (show 0 ≤ l ∧ l < k by omega)]
      by_cases c1 : w = 1
      · rw [if_pos ⟨c, c1⟩, if_pos c1]
      · rw [if_neg (fun q => c1 q.2), if_neg c1]
        by_cases c5 : w = 5
        · rw [if_pos ⟨c, c5⟩, if_pos c5]
        · rw [if_neg (fun q => c5 q.2), if_neg c5]
    · rw [if_neg c, if_neg (fun q => c q.1), if_neg (fun q => c q.1), if_neg (show ¬ (0 ≤ l ∧ l < k) by omega)]
theorem mBeg_L : ∀ d i n T, i + d = 63 → d + 1 ≤ n → ∃ T', m_X9_meetBegins_L2 n T (nI i) = some T' ∧ T'.1 = T.1 ∧ T'.2.2 = T.2.2 ∧ (∀ a, a ≠ 11 → T'.2.1 a = T.2.1 a) ∧ (∀ x, T'.2.1 11 x = if i ≤ x ∧ x < 63 then 0 else T.2.1 11 x) := by
  intro d
  induction d with
  | zero =>
    intro i n T hi hn
    obtain ⟨m, rfl⟩ : ∃ m, n = m + 1 := ⟨n - 1, by omega⟩
    refine ⟨T, ?_, rfl, rfl, fun _ _ => rfl, fun x => by rw [if_neg (by omega)]⟩
    unfold m_X9_meetBegins_L2
    rw [lit32 63, if_pos (by rw [leN (by omega) (by omega)]; omega)]
  | succ d ih =>
    intro i n T hi hn
    obtain ⟨m, rfl⟩ : ∃ m, n = m + 1 := ⟨n - 1, by omega⟩
    obtain ⟨T', e1, e2, e3, e4, e5⟩ := ih (i + 1) m (sA T 11 i 0) (by omega) (by omega)
    refine ⟨T', ?_, e2, e3, fun a ha => (e4 a ha).trans (sA_row ha), ?_⟩
    · unfold m_X9_meetBegins_L2
      simp only [nmE]
      rw [lit32 63, if_neg (by rw [leN (by omega) (by omega)]; omega), ckN (by omega) (by omega), clN (by omega), s1]
      exact e1
    · intro x
      rw [e5 x, sA_21, if_pos rfl]
      by_cases c : x = i
      · subst c
        rw [if_neg (by omega), if_pos rfl, if_pos (by omega)]
      · rw [if_neg c]
        by_cases c2 : i + 1 ≤ x ∧ x < 63
        · rw [if_pos c2, if_pos (show i ≤ x ∧ x < 63 by omega)]
        · rw [if_neg c2, if_neg (show ¬ (i ≤ x ∧ x < 63) by omega)]
/-- both begin the meet -/
theorem open_same {k n n' : Nat} {S T : St} (hk : k ≤ 6) (hn : 40 ≤ n) (hn' : 80 ≤ n') (g0 : S.1 30 = nI k) (g3 : T.1 3 = nI k) (g10 : S.1 31 = T.1 10) (hp : ∀ l, l < k → S.2.1 (6 + 3 * l) 0 = T.2.1 9 (3 * (3 * l)) ∧ Rg (T.2.1 9 (3 * (3 * l))) 1 40) :
    ∃ S' T', m_X4_open 30 25 n S = some S' ∧ m_X9_meetBegins n' T = some T' ∧ FrM 30 25 S S' ∧ (∀ i, i ≠ 13 → i ≠ 14 → T'.1 i = T.1 i) ∧ (∀ a, a ≠ 11 → T'.2.1 a = T.2.1 a) ∧ T'.2.2 = T.2.2 ∧ MeetR 30 25 k S' T' ∧ MeetI k (T'.2.1 11) (T'.1 13) (T'.1 14) ∧ T'.1 13 = 0 ∧ BitP 25 S' := by
  obtain ⟨S1, a1, a2, a3, a4, a5, a6⟩ := open17_L (ib := 30) (ab := 25) 6 0 n (sI (sI (sI S 32 0) 35 0) 36 0) (by omega) (by omega)
  obtain ⟨S2, b1, b2, b3, b4, b5, b6⟩ := open38_L (ib := 30) (ab := 25) 18 0 n S1 (by omega) (by omega)
  have i2 : ∀ i, S2.1 i = if i = 36 then 0 else if i = 35 then 0 else if i = 32 then 0 else S.1 i := fun i => by rw [b2, a2]; rfl
  obtain ⟨S', c1, c2, c3, c4, c5, c6, c7⟩ := openLift8 (ib := 30) (ab := 25) (k := k) (lift := 0) (n := n) (S := S2) (by omega) hk (by omega) (by omega) (by rw [i2, if_neg (by omega), if_neg (by omega), if_neg (by omega)]; exact g0) (by rw [i2, if_neg (by omega), if_neg (by omega), if_pos rfl]; rfl)
  obtain ⟨T1, d1, d2, d3, d4, d5⟩ := mBeg_L 63 0 n' T (by omega) (by omega)
  obtain ⟨T', f1, f2, f3, f4, f5, f6, f7, f8⟩ := liftBegins9 (k := k) (n := n') (lift := 0) (T := sI (sI T1 13 0) 14 0) hk (by omega) (by show T1.1 3 = _; rw [d2]; exact g3) (by show T1.2.1 11 0 = _; rw [d5, if_pos (by omega)]; rfl) (by omega)
  have r6 : ∀ a, a ≤ 25 ∨ 33 ≤ a → S2.2.1 a = S.2.1 a := fun a ha => by rw [b4 a (by omega), a4 a (by omega)]; rfl
  have r4 : ∀ j, j < 6 → S2.2.1 (25 + 4) j = 0 := fun j hj => by rw [b4 _ (by omega)]; exact a5 j (by omega) hj
  have ask8 : ∀ l, l < k → askC 25 k 0 S2 l = T.2.1 9 (3 * (3 * l)) := fun l hl => by
    unfold askC
    rw [if_pos ⟨hl, by omega, r4 l (by omega)⟩, r6 _ (by omega)]
    exact (hp l hl).1
  have m0 : ∀ l w, l < 6 → w < 10 → mt (sI (sI T1 13 0) 14 0) l w = 0 := fun l w hl hw => by
    show T1.2.1 11 (3 + 10 * l + w) = 0
    rw [d5, if_pos (by omega)]
  have m0' : ∀ l w, l < k → w < 10 → mt T' l w = if w = 0 then T.2.1 9 (3 * (3 * l)) else if w = 5 then 1 else 0 := fun l w hl hw => by
    rw [f8 l w hw, if_pos hl]
    unfold lbV askR
    rw [m0 l w (by omega) hw, m0 l 6 (by omega) (by omega), if_pos (show 0 < 3 ∧ ¬ (0 : Int32) = 1 from ⟨by omega, by decide⟩), show (sI (sI T1 13 0) 14 0).2.1 9 = T.2.1 9 from d4 9 (by omega), Nat.add_zero]
    by_cases c1 : w = 1
    · subst c1; rfl
    · rw [if_neg c1]
      by_cases c5 : w = 5
      · subst c5; rfl
      · rw [if_neg c5, if_neg c5]
        by_cases c0 : w = 0
        · rw [if_pos c0, if_pos c0]
        · rw [if_neg c0, if_neg c0]
          split <;> rfl
  have ti : ∀ i, T'.1 i = if i = 14 then 0 else if i = 13 then 0 else T.1 i := fun i => by rw [f2, sI_1, sI_1, d2]
  refine ⟨S', T', ?_, ?_, ⟨?_, ?_, ?_⟩, ?_, ?_, ?_, ?_, ?_, ?_, ?_⟩
  · unfold m_X4_open
    simp only [nmE]
    rw [show m_X4_open_L17 30 25 n (sI (sI (sI S (30 + 2) 0) (30 + 5) 0) (30 + 6) 0) 0 = some S1 from a1]
    simp only [Option.bind_some]
    rw [show m_X4_open_L38 30 25 n S1 0 = some S2 from b1]
    simp only [Option.bind_some]
    rw [c1]
    rfl
  · unfold m_X9_meetBegins
    simp only [nmE]
    rw [show m_X9_meetBegins_L2 n' T 0 = some T1 from d1]
    simp only [Option.bind_some]
    rw [f1]
    rfl
  · intro i hi
    rw [c4 i (by omega) (by omega), i2, if_neg (by omega), if_neg (by omega), if_neg (by omega)]
  · intro a ha
    rw [c6 a (by omega) (by omega) (by omega) (by omega) (by omega), r6 a (by omega)]
  · rw [c5, b3, a3]; rfl
  · intro i h1 h2
    rw [ti, if_neg h2, if_neg h1]
  · intro a ha
    rw [f4 a ha]
    exact d4 a ha
  · rw [f3]; exact d3
  · refine ⟨?_, ?_, ?_, ?_, ?_, ?_, ?_, ?_⟩
    · rw [c4 _ (by omega) (by omega), i2, if_neg (by omega), if_neg (by omega), if_neg (by omega)]; exact g0
    · rw [c4 _ (by omega) (by omega), i2, if_neg (by omega), if_neg (by omega), if_neg (by omega), ti, if_neg (by omega), if_neg (by omega)]; exact g10
    · rw [c4 _ (by omega) (by omega), i2, if_neg (by omega), if_neg (by omega), if_pos (by omega), f5]; rfl
    · rw [c2, f6]
    · rw [c3, f7]
    · rw [c4 _ (by omega) (by omega), i2, if_neg (by omega), if_pos (by omega), ti, if_neg (by omega), if_pos (by omega)]
    · rw [c4 _ (by omega) (by omega), i2, if_pos (by omega), ti, if_pos (by omega)]
    · intro l hl
      obtain ⟨p1, p2, p3, p4, p5⟩ := c7 l (by omega)
      refine ⟨?_, ?_, ?_, ?_, ?_, ?_, ?_⟩
      · rw [p1, ask8 l hl, m0' l 0 hl (by omega), if_pos rfl]
      · rw [p2, m0' l 1 hl (by omega), if_neg (by omega), if_neg (by omega)]
      · rw [p3, m0' l 5 hl (by omega), if_neg (by omega), if_pos rfl]; rfl
      · rw [c6 _ (by omega) (by omega) (by omega) (by omega) (by omega), r4 l (by omega), m0' l 6 hl (by omega), if_neg (by omega), if_neg (by omega)]
      · rw [p4, m0' l 4 hl (by omega), if_neg (by omega), if_neg (by omega)]
      · rw [p5, m0' l 2 hl (by omega), if_neg (show ¬ 2 = 0 by omega), if_neg (show ¬ 2 = 5 by omega), if_pos rfl]
      · intro t ht
        rw [c6 _ (by omega) (by omega) (by omega) (by omega) (by omega), b5 _ (by omega) (by omega), m0' l (7 + t) hl (by omega), if_neg (by omega), if_neg (by omega)]
  · refine ⟨0, 0, 0, by omega, by omega, f5, f6, ?_, fun q => absurd q (by omega), ?_, ?_, ?_, ?_, fun _ => rfl, by omega, fun _ => ⟨rfl, rfl, ?_⟩, ⟨?_, ?_⟩, ?_⟩
    · rw [f7]; exact ⟨by decide, by decide⟩
    · rw [ti, if_neg (by omega), if_pos rfl]; exact ⟨by decide, by decide⟩
    · rw [ti, if_pos rfl]; decide
    · rw [ti, if_pos rfl, ti, if_neg (by omega), if_pos rfl]; decide
    · rw [ti, if_neg (by omega), if_pos rfl]
      have : Int32.toInt 0 = 0 := rfl
      omega
    · rw [ti, if_neg (by omega), if_pos rfl]
    · intro l hl
      left
      rw [show T'.2.1 11 (3 + 10 * l + 1) = _ from m0' l 1 hl (by omega)]; rfl
    · apply cntR_none
      intro l _ hl
      rw [show T'.2.1 11 (3 + 10 * l + 1) = _ from m0' l 1 (by omega) (by omega)]; rfl
    · intro l hl
      have e7 : ∀ t, t < 3 → T'.2.1 11 (3 + 10 * l + 7 + t) = 0 := fun t ht => by
        rw [Nat.add_assoc (3 + 10 * l), show T'.2.1 11 (3 + 10 * l + (7 + t)) = _ from m0' l (7 + t) hl (by omega), if_neg (by omega), if_neg (by omega)]
      have hr := (hp l hl).2
      unfold OwnI itsI
      rw [show T'.2.1 11 (3 + 10 * l + 0) = _ from m0' l 0 hl (by omega), show T'.2.1 11 (3 + 10 * l + 1) = _ from m0' l 1 hl (by omega), show T'.2.1 11 (3 + 10 * l + 2) = _ from m0' l 2 hl (by omega), show T'.2.1 11 (3 + 10 * l + 3) = _ from m0' l 3 hl (by omega), show T'.2.1 11 (3 + 10 * l + 4) = _ from m0' l 4 hl (by omega), show T'.2.1 11 (3 + 10 * l + 5) = _ from m0' l 5 hl (by omega), show T'.2.1 11 (3 + 10 * l + 6) = _ from m0' l 6 hl (by omega)]
      simp only [if_true, Nat.reduceEqDiff, if_false, show ¬ (1 = 0) by omega, show ¬ (2 = 0) by omega, show ¬ (3 = 0) by omega, show ¬ (4 = 0) by omega, show ¬ (5 = 0) by omega, show ¬ (6 = 0) by omega, show ¬ (1 = 5) by omega]
      have i0 : Int32.toInt 0 = 0 := rfl
      refine ⟨⟨by have := hr.1; omega, hr.2⟩, ⟨by decide, by decide⟩, ⟨by decide, by decide⟩, ⟨by decide, by decide⟩, ⟨by decide, by decide⟩, ⟨by decide, by decide⟩, fun t ht => by rw [e7 t ht]; exact ⟨by decide, by decide⟩, fun q => absurd q (by decide), fun q => absurd q (by decide), fun t ht _ => e7 t ht, fun t ht q => absurd q (by omega), fun _ _ => ?_⟩
      rw [e7 0 (by omega)]
      refine ⟨by decide, by decide, fun _ => by decide, fun _ => rfl, by decide, hr.1, fun q => absurd q (by decide)⟩
  · rw [ti, if_neg (by omega), if_pos rfl]
  · intro i hi
    refine ⟨Or.inl (c7 i hi).2.1, Or.inl ?_⟩
    rw [c6 _ (by omega) (by omega) (by omega) (by omega) (by omega)]
    exact r4 i hi
