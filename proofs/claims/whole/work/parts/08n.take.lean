/-! ===== layer B: a try ===== -/
/-- what is asked next -/
def nxA (r a pl : Nat) : Int32 := if r = 2 then 0 else if a + pl ≤ 40 then nI (a + pl) else 0
theorem take8_0 {ib ab l lift r c a f pl : Nat} {S : St} {bar : Int32} (hab : 25 ≤ ab) (hl : l < 6) (hlift : lift < 3) (hr : r ≤ 2) (hc : c < 54) (ha : a ≤ 40) (hf : f ≤ 3) (hpl : pl ≤ 9)
    (h2 : S.1 (ib + 2) = nI lift) (h3 : S.1 (ib + 3) = nI r) (h4 : S.1 (ib + 4) = bar) (h5 : S.1 (ib + 5) = nI c) (ka : S.2.1 (ab + 1) l = nI a) (kf : S.2.1 (ab + 6) l = nI f) (kp : S.2.1 (6 + 3 * l) (3 * lift + 2) = nI pl) :
    ∃ S', m_X4_take ib ab S (nI l) 0 = some S' ∧ (∀ i, i ≠ ib + 4 → i ≠ ib + 5 → S'.1 i = S.1 i) ∧ S'.1 (ib + 4) = mx bar (nI a) ∧ S'.1 (ib + 5) = nI (c + 1) ∧ S'.2.2 = S.2.2 ∧ (∀ x, (x < ab + 1 ∨ ab + 8 < x ∨ x = ab + 3 ∨ x = ab + 4 ∨ x = ab + 5) → S'.2.1 x = S.2.1 x) ∧
      (∀ j, S'.2.1 (ab + 1) j = if j = l then nxA r a pl else S.2.1 (ab + 1) j) ∧ (∀ j, S'.2.1 (ab + 2) j = if j = l then 1 else S.2.1 (ab + 2) j) ∧ (∀ j, S'.2.1 (ab + 6) j = if j = l then nI (f + 1) else S.2.1 (ab + 6) j) ∧ (∀ j, S'.2.1 (ab + 7) j = if j = l then nI a else S.2.1 (ab + 7) j) ∧
      (∀ j, S'.2.1 (ab + 8) j = if j = 4 * c + 3 then 0 else if j = 4 * c + 2 then nI a else if j = 4 * c + 1 then nI lift else if j = 4 * c then nI l else S.2.1 (ab + 8) j) := by
  have hstep : m_X4_take ib ab S (nI l) 0 = some (sA (sA (sA (sI (sA (sI (sA (sA (sA (sA S (ab + 8) (4 * c) (nI l)) (ab + 8) (4 * c + 1) (nI lift)) (ab + 8) (4 * c + 2) (nI a)) (ab + 8) (4 * c + 3) 0) (ib + 5) (nI (c + 1))) (ab + 2) l 1) (ib + 4) (mx bar (nI a))) (ab + 6) l (nI (f + 1))) (ab + 7) l (nI a)) (ab + 1) l (nxA r a pl)) := by
    unfold m_X4_take
    rw [h2, h5, lit32 54, lit32 3, if_neg (by rw [leN (by omega) (by omega)]; omega), if_pos (by rw [ltN (by omega) (by omega)]; omega)]
    simp (disch := omega) only [nmE, sA_1, sI_2, sI_ne, sI_eq, sA_row, h2, h3, h4, h5, m4, m3, s1, s2, s3, ckN, clN, ka, kf, kp, if_true, Option.bind_some, nI_add, ← lit32 3]
    unfold nxA
    rw [lit32 2, lit32 40, ifeqN (by omega) (by omega), ifleN (by omega) (by omega)]
    by_cases q : r = 2
    · rw [if_pos q, if_pos q]
    · rw [if_neg q, if_neg q]
      by_cases q2 : a + pl ≤ 40
      · rw [if_pos q2, if_pos q2]
      · rw [if_neg q2, if_neg q2]
  refine ⟨_, hstep, ?_, ?_, ?_, rfl, ?_, ?_, ?_, ?_, ?_, ?_⟩
  · intro i q1 q2
    simp (disch := omega) only [sA_1, sI_ne]
  · simp (disch := omega) only [sA_1, sI_eq]
  · simp (disch := omega) only [sA_1, sI_eq, sI_ne]
  · intro x hx
    simp (disch := omega) only [sA_row, sI_2]
  · intro j
    rw [sA_21, if_pos rfl]
    simp (disch := omega) only [sA_row, sI_2]
  · intro j
    simp (disch := omega) only [sA_row, sI_2]
    rw [sA_21, if_pos rfl]
    simp (disch := omega) only [sA_row, sI_2]
  · intro j
    simp (disch := omega) only [sA_row, sI_2]
    rw [sA_21, if_pos rfl]
    simp (disch := omega) only [sA_row, sI_2]
  · intro j
    simp (disch := omega) only [sA_row, sI_2]
    rw [sA_21, if_pos rfl]
    simp (disch := omega) only [sA_row, sI_2]
  · intro j
    simp (disch := omega) only [sA_row, sI_2]
    rw [sA_21, if_pos rfl, sA_21, if_pos rfl, sA_21, if_pos rfl, sA_21, if_pos rfl]
theorem take8_1 {ib ab l lift r c a b pl : Nat} {S : St} {bar g : Int32} (hab : 25 ≤ ab) (hl : l < 6) (hlift : lift < 3) (hr : r ≤ 2) (hc : c < 54) (ha : a ≤ 40) (hpl : pl ≤ 9)
    (h2 : S.1 (ib + 2) = nI lift) (h3 : S.1 (ib + 3) = nI r) (h4 : S.1 (ib + 4) = bar) (h5 : S.1 (ib + 5) = nI c) (h6 : S.1 (ib + 6) = g) (ka : S.2.1 (ab + 1) l = nI a) (kb : S.2.1 (ab + 5) (3 * l + lift) = nI b) (kp : S.2.1 (6 + 3 * l) (3 * lift + 1) = nI pl) :
    ∃ S', m_X4_take ib ab S (nI l) 1 = some S' ∧ (∀ i, i ≠ ib + 4 → i ≠ ib + 5 → i ≠ ib + 6 → S'.1 i = S.1 i) ∧ S'.1 (ib + 4) = mx bar (nI a) ∧ S'.1 (ib + 5) = nI (c + 1) ∧ S'.1 (ib + 6) = g + 1 ∧ S'.2.2 = S.2.2 ∧ (∀ x, (x < ab + 1 ∨ ab + 8 < x ∨ x = ab + 3 ∨ x = ab + 4 ∨ x = ab + 6) → S'.2.1 x = S.2.1 x) ∧
      (∀ j, S'.2.1 (ab + 1) j = if j = l then nxA r a pl else S.2.1 (ab + 1) j) ∧ (∀ j, S'.2.1 (ab + 2) j = if j = l then 1 else S.2.1 (ab + 2) j) ∧ (∀ j, S'.2.1 (ab + 5) j = if j = 3 * l + lift then mx (nI b) (nI a) else S.2.1 (ab + 5) j) ∧ (∀ j, S'.2.1 (ab + 7) j = if j = l then nI (a + 1) else S.2.1 (ab + 7) j) ∧
      (∀ j, S'.2.1 (ab + 8) j = if j = 4 * c + 3 then 1 else if j = 4 * c + 2 then nI a else if j = 4 * c + 1 then nI lift else if j = 4 * c then nI l else S.2.1 (ab + 8) j) := by
  have hstep : m_X4_take ib ab S (nI l) 1 = some (sA (sA (sA (sI (sI (sA (sI (sA (sA (sA (sA S (ab + 8) (4 * c) (nI l)) (ab + 8) (4 * c + 1) (nI lift)) (ab + 8) (4 * c + 2) (nI a)) (ab + 8) (4 * c + 3) 1) (ib + 5) (nI (c + 1))) (ab + 2) l 1) (ib + 4) (mx bar (nI a))) (ib + 6) (g + 1)) (ab + 5) (3 * l + lift) (mx (nI b) (nI a))) (ab + 7) l (nI (a + 1))) (ab + 1) l (nxA r a pl)) := by
    unfold m_X4_take
    rw [h2, h5, lit32 54, lit32 3, if_neg (by rw [leN (by omega) (by omega)]; omega), if_pos (by rw [ltN (by omega) (by omega)]; omega)]
    simp (disch := omega) only [nmE, sA_1, sI_2, sI_ne, sI_eq, sA_row, h2, h3, h4, h5, h6, m4, m3, s1, s2, s3, ckN, clN, ka, kb, kp, b10, if_false, Option.bind_some, nI_add, ← lit32 3]
    unfold nxA
    rw [lit32 2, lit32 40, ifeqN (by omega) (by omega), ifleN (by omega) (by omega)]
    by_cases q : r = 2
    · rw [if_pos q, if_pos q]
    · rw [if_neg q, if_neg q]
      by_cases q2 : a + pl ≤ 40
      · rw [if_pos q2, if_pos q2]
      · rw [if_neg q2, if_neg q2]
  refine ⟨_, hstep, ?_, ?_, ?_, ?_, rfl, ?_, ?_, ?_, ?_, ?_, ?_⟩
  · intro i q1 q2 q3
    simp (disch := omega) only [sA_1, sI_ne]
  · simp (disch := omega) only [sA_1, sI_eq, sI_ne]
  · simp (disch := omega) only [sA_1, sI_eq, sI_ne]
  · simp (disch := omega) only [sA_1, sI_eq, sI_ne]
  · intro x hx
    simp (disch := omega) only [sA_row, sI_2]
  · intro j
    rw [sA_21, if_pos rfl]
    simp (disch := omega) only [sA_row, sI_2]
  · intro j
    simp (disch := omega) only [sA_row, sI_2]
    rw [sA_21, if_pos rfl]
    simp (disch := omega) only [sA_row, sI_2]
  · intro j
    simp (disch := omega) only [sA_row, sI_2]
    rw [sA_21, if_pos rfl]
    simp (disch := omega) only [sA_row, sI_2]
  · intro j
    simp (disch := omega) only [sA_row, sI_2]
    rw [sA_21, if_pos rfl]
    simp (disch := omega) only [sA_row, sI_2]
  · intro j
    simp (disch := omega) only [sA_row, sI_2]
    rw [sA_21, if_pos rfl, sA_21, if_pos rfl, sA_21, if_pos rfl, sA_21, if_pos rfl]
theorem mt_15 (T : St) (i : Nat) (v : Int32) (l w : Nat) : mt (sA T 15 i v) l w = mt T l w := rfl
theorem mt_i (T : St) (i : Nat) (v : Int32) (l w : Nat) : mt (sI T i v) l w = mt T l w := rfl
theorem mt_2 (T : St) (v : Int32) (l w : Nat) : mt (sA T 11 2 v) l w = mt T l w := sA_ne (by omega)
theorem mt_ne {T : St} {l w l' w' : Nat} {v : Int32} (hw : w < 10) (hw' : w' < 10) (h : l' ≠ l ∨ w' ≠ w) : mt (sA T 11 (3 + 10 * l + w) v) l' w' = mt T l' w' := by rw [mt_set hw hw', if_neg (by omega)]
theorem asks9 {T : St} {l lift r a pl : Nat} (p : Int32) (hl : l < 6) (hlift : lift < 3) (hr : r ≤ 2) (ha : a ≤ 40) (hpl : pl ≤ 9) (hp : T.2.1 9 (3 * (3 * l + lift) + (if p = 0 then 2 else 1)) = nI pl) : m_X9_asksThen T (nI l) (nI lift) (nI r) (nI a) p = some (nxA r a pl) := by
  unfold m_X9_asksThen nxA
  have : ((if p = 0 then (some 2) else (some 1) : Option (Int32))).bind (fun q2 => m_X9_planOf T (nI l) (nI lift) q2) = some (nI pl) := by
    by_cases q : p = 0
    · rw [if_pos q] at hp ⊢
      rw [← hp]
      exact planOf9 (w := 2) hl hlift (by omega)
    · rw [if_neg q] at hp ⊢
      rw [← hp]
      exact planOf9 (w := 1) hl hlift (by omega)
  rw [← Option.bind_assoc, this]
  simp only [Option.bind_some]
  rw [nI_add, lit32 2, lit32 40, ifeqN (by omega) (by omega), ifleN (by omega) (by omega)]
  by_cases q : r = 2
  · rw [if_pos q, if_pos q]
  · rw [if_neg q, if_neg q]
    by_cases q2 : a + pl ≤ 40
    · rw [if_pos q2, if_pos q2]
    · rw [if_neg q2, if_neg q2]
theorem doesTry9 {T : St} {n l lift r c a f b pl : Nat} {bar : Int32} {p : Int32} (hp01 : p = 0 ∨ p = 1) (hl : l < 6) (hlift : lift < 3) (hr : r ≤ 2) (hc : c < 54) (ha : a ≤ 40) (hf : f ≤ 3) (hpl : pl ≤ 9) (h0 : T.2.1 11 0 = nI lift) (h1 : T.2.1 11 1 = nI r) (h2 : T.2.1 11 2 = bar) (h13 : T.1 13 = nI c) (ka : mt T l 0 = nI a) (kf : mt T l 4 = nI f) (kb : mt T l (7 + lift) = nI b) (hp : T.2.1 9 (3 * (3 * l + lift) + (if p = 0 then 2 else 1)) = nI pl) :
    ∃ T', m_X9_doesTry n T (nI l) p = (m_X9_goesOn n T').bind (fun r46 => some r46) ∧ (∀ i, i ≠ 13 → i ≠ 14 → i ≠ 16 → T'.1 i = T.1 i) ∧ T'.1 13 = nI (c + 1) ∧ T'.1 14 = T.1 14 + p ∧ T'.1 16 = nxA r a pl ∧ T'.2.2 = T.2.2 ∧ (∀ x, x ≠ 11 → x ≠ 15 → T'.2.1 x = T.2.1 x) ∧ T'.2.1 11 0 = nI lift ∧ T'.2.1 11 1 = nI r ∧ T'.2.1 11 2 = mx bar (nI a) ∧
      (∀ j w, w < 10 → mt T' j w = if j = l then (if w = 0 then nxA r a pl else if w = 1 then 1 else if w = 2 then nI a else if w = 3 then p else if w = 4 then (if p = 0 then nI (f + 1) else nI f) else if w = 7 + lift then (if p = 0 then nI b else mx (nI a) (nI b)) else mt T l w) else mt T j w) ∧
      (∀ j, T'.2.1 15 j = if j = 4 * c + 3 then p else if j = 4 * c + 2 then nI a else if j = 4 * c + 1 then nI lift else if j = 4 * c then nI l else T.2.1 15 j) := by
  have hfl : ∀ X : St, m_X9_flag X p = some p := fun X => by
    unfold m_X9_flag
    rcases hp01 with q | q
    · rw [if_pos q, q]
    · rw [if_neg (by rw [q]; decide), q]
  have k0 : ∀ {α : Type} (x : Option α), ck 0 63 x = x := fun x => rfl
  have k1 : ∀ {α : Type} (x : Option α), ck 1 63 x = x := fun x => rfl
  have k2 : ∀ {α : Type} (x : Option α), ck 2 63 x = x := fun x => rfl
  have z0 : (0 : Int32).toNatClampNeg = 0 := rfl
  have z1 : (1 : Int32).toNatClampNeg = 1 := rfl
  have z2 : (2 : Int32).toNatClampNeg = 2 := rfl
  let TA : St := sA (sA (sA (sA (sA (sI T 16 (nxA r a pl)) 11 2 (mx bar (nI a))) 11 (3 + 10 * l + 1) 1) 11 (3 + 10 * l + 2) (nI a)) 11 (3 + 10 * l + 3) p) 11 (3 + 10 * l + 0) (nxA r a pl)
  let TB : St := if p = 0 then sA TA 11 (3 + 10 * l + 4) (nI (f + 1)) else sA TA 11 (3 + 10 * l + (7 + lift)) (mx (nI a) (nI b))
  have fA : FrL (sA (sI T 16 (nxA r a pl)) 11 2 (mx bar (nI a))) TA := ((((FrL.rfl _).set l 1 1).set l 2 (nI a)).set l 3 p).set l 0 (nxA r a pl)
  have fB : FrL (sA (sI T 16 (nxA r a pl)) 11 2 (mx bar (nI a))) TB := by
    show FrL _ (if p = 0 then _ else _)
    split
    · exact fA.set l 4 _
    · exact fA.set l (7 + lift) _
  have mA : ∀ j w, w < 10 → mt TA j w = if j = l then (if w = 0 then nxA r a pl else if w = 1 then 1 else if w = 2 then nI a else if w = 3 then p else mt T l w) else mt T j w := fun j w hw => by
    show mt (sA (sA (sA (sA (sA (sI T 16 (nxA r a pl)) 11 2 (mx bar (nI a))) 11 (3 + 10 * l + 1) 1) 11 (3 + 10 * l + 2) (nI a)) 11 (3 + 10 * l + 3) p) 11 (3 + 10 * l + 0) (nxA r a pl)) j w = _
    rw [mt_set (by omega) hw, mt_set (by omega) hw, mt_set (by omega) hw, mt_set (by omega) hw, mt_2, mt_i]
    by_cases cj : j = l
    · subst cj
      simp only [true_and, if_true]
      by_cases w0 : w = 0
      · subst w0; rfl
      · rw [if_neg w0, if_neg w0]
        by_cases w1 : w = 1
        · subst w1; rfl
        · rw [if_neg w1, if_neg w1]
          by_cases w2 : w = 2
          · subst w2; rfl
          · rw [if_neg w2, if_neg w2]
    · simp only [cj, false_and, if_false]
  have mB : ∀ j w, w < 10 → mt TB j w = if j = l then (if w = 0 then nxA r a pl else if w = 1 then 1 else if w = 2 then nI a else if w = 3 then p else if w = 4 then (if p = 0 then nI (f + 1) else nI f) else if w = 7 + lift then (if p = 0 then nI b else mx (nI a) (nI b)) else mt T l w) else mt T j w := fun j w hw => by
    show mt (if p = 0 then sA TA 11 (3 + 10 * l + 4) (nI (f + 1)) else sA TA 11 (3 + 10 * l + (7 + lift)) (mx (nI a) (nI b))) j w = _
    by_cases q : p = 0
    · rw [if_pos q, if_pos q, if_pos q, mt_set (by omega) hw, mA j w hw]
      by_cases cj : j = l
      · subst cj
        simp only [true_and, if_true]
        by_cases w4 : w = 4
        · subst w4; rfl
        · rw [if_neg w4, if_neg w4]
          by_cases w7 : w = 7 + lift
          · subst w7
            rw [if_pos rfl, kb]
          · rw [if_neg w7]
      · simp only [cj, false_and, if_false]
    · rw [if_neg q, if_neg q, if_neg q, mt_set (by omega) hw, mA j w hw]
      by_cases cj : j = l
      · subst cj
        simp only [true_and, if_true]
        by_cases w7 : w = 7 + lift
        · subst w7
          rw [if_pos rfl, if_neg (show ¬ 7 + lift = 0 by omega), if_neg (show ¬ 7 + lift = 1 by omega), if_neg (show ¬ 7 + lift = 2 by omega), if_neg (show ¬ 7 + lift = 3 by omega), if_neg (show ¬ 7 + lift = 4 by omega), if_pos rfl]
        · rw [if_neg w7, if_neg w7]
          by_cases w4 : w = 4
          · subst w4
            rw [if_pos rfl, kf]
          · rw [if_neg w4]
      · simp only [cj, false_and, if_false]
  have iB : TB.1 = (sI T 16 (nxA r a pl)).1 := fB.1
  have i13 : TB.1 13 = nI c := by rw [iB, sI_ne (by omega)]; exact h13
  have hstep : m_X9_doesTry n T (nI l) p = (m_X9_goesOn n (sI (sI (sA (sA (sA (sA TB 15 (4 * c) (nI l)) 15 (4 * c + 1) (nI lift)) 15 (4 * c + 2) (nI a)) 15 (4 * c + 3) p) 13 (nI (c + 1))) 14 (T.1 14 + p))).bind (fun r46 => some r46) := by
    unfold m_X9_doesTry
    simp only [nmE, k0, k1, k2, z0, z1, z2, h0, h1, hfl]
    rw [of0 hl, ka]
    simp only [Option.bind_some]
    rw [asks9 p hl hlift hr ha hpl hp]
    simp only [Option.bind_some]
    rw [sets1 _ hl]
    simp only [Option.bind_some]
    rw [sets2 _ hl]
    simp only [Option.bind_some]
    rw [sets3 _ hl]
    simp only [Option.bind_some]
    rw [sets0 _ hl]
    simp only [Option.bind_some]
    rw [show (7 : Int32) + nI lift = nI (7 + lift) by rw [lit32 7, nI_add]]
    have hb : ((if p = 0 then ((m_X9_of TA (nI l) 4).bind (fun r48 => (m_X9_sets TA (nI l) 4 (r48 + 1)).bind (fun r50 => some r50))) else ((m_X9_of TA (nI l) (nI (7 + lift))).bind (fun r52 => (m_X9_sets TA (nI l) (nI (7 + lift)) (mx (nI a) r52)).bind (fun r54 => some r54))) : Option (St))) = some TB := by
      by_cases q : p = 0
      · rw [if_pos q, of4 hl, mA l 4 (by omega), if_pos rfl]
        show ((some (mt T l 4)).bind fun r48 => (m_X9_sets TA (nI l) 4 (r48 + 1)).bind fun r50 => some r50) = some TB
        rw [kf]
        simp only [Option.bind_some]
        rw [s1, sets4 _ hl]
        show some _ = some (if p = 0 then _ else _)
        rw [if_pos q]
      · rw [if_neg q, of_eq hl (by omega), mA l (7 + lift) (by omega), if_pos rfl, if_neg (show ¬ 7 + lift = 0 by omega), if_neg (show ¬ 7 + lift = 1 by omega), if_neg (show ¬ 7 + lift = 2 by omega), if_neg (show ¬ 7 + lift = 3 by omega), kb]
        simp only [Option.bind_some]
        rw [sets_eq _ hl (by omega)]
        show some _ = some (if p = 0 then _ else _)
        rw [if_neg q]
    have e16 : (sI T 16 (nxA r a pl)).1 16 = nxA r a pl := sI_eq
    have e112 : (sI T 16 (nxA r a pl)).2.1 11 2 = bar := h2
    simp only [sA_1, e16, e112]
    rw [show ((if p = 0 then ((m_X9_of (sA (sA (sA (sA (sA (sI T 16 (nxA r a pl)) 11 2 (mx bar (nI a))) 11 (3 + 10 * l + 1) 1) 11 (3 + 10 * l + 2) (nI a)) 11 (3 + 10 * l + 3) p) 11 (3 + 10 * l + 0) (nxA r a pl)) (nI l) 4).bind (fun r48 => (m_X9_sets (sA (sA (sA (sA (sA (sI T 16 (nxA r a pl)) 11 2 (mx bar (nI a))) 11 (3 + 10 * l + 1) 1) 11 (3 + 10 * l + 2) (nI a)) 11 (3 + 10 * l + 3) p) 11 (3 + 10 * l + 0) (nxA r a pl)) (nI l) 4 (r48 + 1)).bind (fun r50 => some r50))) else ((m_X9_of (sA (sA (sA (sA (sA (sI T 16 (nxA r a pl)) 11 2 (mx bar (nI a))) 11 (3 + 10 * l + 1) 1) 11 (3 + 10 * l + 2) (nI a)) 11 (3 + 10 * l + 3) p) 11 (3 + 10 * l + 0) (nxA r a pl)) (nI l) (nI (7 + lift))).bind (fun r52 => (m_X9_sets (sA (sA (sA (sA (sA (sI T 16 (nxA r a pl)) 11 2 (mx bar (nI a))) 11 (3 + 10 * l + 1) 1) 11 (3 + 10 * l + 2) (nI a)) 11 (3 + 10 * l + 3) p) 11 (3 + 10 * l + 0) (nxA r a pl)) (nI l) (nI (7 + lift)) (mx (nI a) r52)).bind (fun r54 => some r54))) : Option (St))) = some TB from hb]
    simp only [Option.bind_some]
    generalize hTB : TB = X at *
    simp (disch := omega) only [sA_1, i13, m4', s1, s2, s3, ckN, clN, sI_ne, sI_eq]
    rw [iB, sI_ne (by omega)]
  refine ⟨_, hstep, ?_, ?_, ?_, ?_, ?_, ?_, ?_, ?_, ?_, ?_, ?_⟩
  · intro i q1 q2 q3
    rw [sI_ne q2, sI_ne q1]
    show TB.1 i = _
    rw [iB, sI_ne q3]
  · rw [sI_ne (by omega), sI_eq]
  · exact sI_eq
  · rw [sI_ne (by omega), sI_ne (by omega)]
    show TB.1 16 = _
    rw [iB, sI_eq]
  · exact fB.2.1
  · intro x h1 h2
    rw [sI_2, sI_2, sA_row h2, sA_row h2, sA_row h2, sA_row h2, fB.2.2.1 x h1, sA_row h1]
    rfl
  · show TB.2.1 11 0 = _
    rw [fB.2.2.2 0 (by omega), sA_ne (by omega)]; exact h0
  · show TB.2.1 11 1 = _
    rw [fB.2.2.2 1 (by omega), sA_ne (by omega)]; exact h1
  · show TB.2.1 11 2 = _
    rw [fB.2.2.2 2 (by omega), sA_eq]
  · intro j w hw
    exact mB j w hw
  · intro j
    rw [sI_2, sI_2, sA_21, if_pos rfl, sA_21, if_pos rfl, sA_21, if_pos rfl, sA_21, if_pos rfl, fB.2.2.1 15 (by omega), sA_row (by omega)]
    rfl
theorem cntR_up {p q : Nat → Bool} {l : Nat} : ∀ d i, i ≤ l → l < i + d → p l = false → q l = true → (∀ j, j ≠ l → q j = p j) → cntR q i d = cntR p i d + 1 := by
  intro d
  induction d with
  | zero => intro i h1 h2; omega
  | succ d ih =>
    intro i h1 h2 h3 h4 h5
    show (if q i = true then 1 else 0) + cntR q (i + 1) d = (if p i = true then 1 else 0) + cntR p (i + 1) d + 1
    by_cases c : i = l
    · subst c
      rw [h4, h3, if_pos rfl, if_neg (by decide), cntR_congr d (i + 1) (fun j a b => h5 j (by omega))]
      omega
    · rw [h5 i c, ih (i + 1) (by omega) (by omega) h3 h4 h5]; omega
/-- a try: all but the going on -/
theorem take_same {ib ab k n l : Nat} {S T : St} {p : Int32} (hp01 : p = 0 ∨ p = 1) (hib : 30 ≤ ib) (hab : 25 ≤ ab) (hv : VR ib ab k S T) (hl : l < k) (hw : wt T l = true) :
    ∃ S1 T1, m_X4_take ib ab S (nI l) p = some S1 ∧ m_X9_doesTry n T (nI l) p = (m_X9_goesOn n T1).bind (fun r46 => some r46) ∧ VR ib ab k S1 T1 ∧ FrM ib ab S S1 ∧ FrT T T1 ∧ (LogP ab S T → LogP ab S1 T1) ∧ (BitP ab S → BitP ab S1) ∧ (T1.1 13).toInt = (T.1 13).toInt + 1 ∧ T1.1 16 = S1.2.1 (ab + 1) l ∧ T1.1 39 = T.1 39 ∧ (T.1 13).toInt ≤ 53 := by
  have hk := hv.1
  obtain ⟨lift, r, done, hj⟩ := hv.2.2.2.2.2.2.at
  obtain ⟨j1, j2, j3, j4, j5, j6, j7, j8, j9, j10, j11, j12, j13, ⟨j14, j14'⟩, j15⟩ := hj
  have h0 : T.2.1 11 0 = nI lift := j3
  have h1 : T.2.1 11 1 = nI r := j4
  have hne := wt_ne hw
  have htr : mt T l 1 = 0 := (wt_ask hw).2
  obtain ⟨o0, o2, o3, o4, o5, o6, o7, o8, o9, o10, o11, o12⟩ := j15 l hl
  have hlift : lift < 3 := by
    rcases Nat.lt_or_ge lift 3 with q | q
    · exact q
    · exact absurd (o9 (by omega)).1 hne
  obtain ⟨c, hc, ec⟩ := j7.nat (n := 54)
  obtain ⟨a, ha, ea⟩ := o0.nat (n := 40)
  obtain ⟨f, hf, ef⟩ := o4.nat (n := 3)
  have ob := o7 lift hlift
  rw [Nat.add_assoc (3 + 10 * l)] at ob
  obtain ⟨b, hb, eb⟩ := ob.nat (n := 40)
  have ea' : mt T l 0 = nI a := ea
  have ef' : mt T l 4 = nI f := ef
  have eb' : mt T l (7 + lift) = nI b := eb
  have ha1 : 1 ≤ a := by
    rcases Nat.lt_or_ge 0 a with q | q
    · exact q
    · exfalso; apply hne; rw [ea', show a = 0 by omega]; rfl
  have hpl2 := (hv.2.2.2.1 l hl).2.2.2.2.1 lift hlift
  have hpr : Rg (T.2.1 9 (3 * (3 * l + lift) + (if p = 0 then 2 else 1))) (if p = 0 then 0 else 1) 9 := by
    by_cases q : p = 0
    · rw [if_pos q, if_pos q]; exact hpl2.2.2.2
    · rw [if_neg q, if_neg q]; exact hpl2.2.2.1
  obtain ⟨pl, hpl, epl⟩ : ∃ pl : Nat, pl ≤ 9 ∧ T.2.1 9 (3 * (3 * l + lift) + (if p = 0 then 2 else 1)) = nI pl := by
    have : Rg (T.2.1 9 (3 * (3 * l + lift) + (if p = 0 then 2 else 1))) 0 9 := ⟨Int.le_trans (by split <;> omega : (0 : Int) ≤ if p = 0 then 0 else 1) hpr.1, hpr.2⟩
    obtain ⟨x, hx, ex⟩ := this.nat (n := 9)
    exact ⟨x, hx, ex⟩
  have hpl1 : p ≠ 0 → 1 ≤ pl := fun q => by
    have := hpr.1
    rw [epl, if_neg q, tiN (by omega)] at this
    omega
  have e8p : S.2.1 (6 + 3 * l) (3 * lift + (if p = 0 then 2 else 1)) = nI pl := by
    rw [← epl]
    by_cases q : p = 0
    · rw [if_pos q]; exact hpl2.1 2 (by omega)
    · rw [if_neg q]; exact hpl2.1 1 (by omega)
  obtain ⟨kk1, kk2, kk3, kk4, kk5, kk6, kk7⟩ := o12 hlift hne
  have htr' : T.2.1 11 (3 + 10 * l + 1) = 0 := htr
  have i0 : Int32.toInt 0 = 0 := rfl
  have i1 : Int32.toInt 1 = 1 := rfl
  have eL : T.2.1 11 (3 + 10 * l + 7 + lift) = nI b := by rw [Nat.add_assoc (3 + 10 * l)]; exact eb
  rw [htr', i0, ef, tiN (by omega)] at kk2
  rw [htr', i0] at kk1
  rw [ef, eL, tiN (by omega)] at kk3
  rw [ef, tiN (by omega), htr', i0, eL] at kk4
  rw [eL, tiN (by omega)] at kk5
  rw [ea, tiN (by omega)] at kk6
  rw [ef, tiN (by omega), htr', i0, eL, tiN (by omega)] at kk7
  have hdone : done < k := by
    rw [← j14']
    have : cntR (fun l => decide (T.2.1 11 (3 + 10 * l + 1) ≠ 0)) 0 k < cntR (fun _ => true) 0 k := by
      apply cntR_lt
      · intro _ _ _ _; rfl
      · exact ⟨l, by omega, by omega, rfl, by simp [htr']⟩
    rw [cntR_all k 0 (fun _ _ _ => rfl)] at this
    exact this
  have hc53 : c < 54 := by
    have e2 : ((3 * (lift : Int) + (r : Int)) * (k : Int)) = (((3 * lift + r) * k : Nat) : Int) := by push_cast; rfl
    rw [e2, ec, tiN (by omega)] at j10
    have : (3 * lift + r) * k ≤ 8 * k := Nat.mul_le_mul_right k (by omega)
    omega
  have c8 := hv.cell hl
  have cm := hv.2.2.2.2.2.1
  obtain ⟨T', t1, t2, t3, t4, t5, t6, t7, t8, t9, t10, t11, t12⟩ := doesTry9 (T := T) (n := n) (p := p) hp01 (show l < 6 by omega) hlift j2 hc53 ha hf hpl h0 h1 rfl ec ea' ef' eb' epl
  have hprop : ∃ S', m_X4_take ib ab S (nI l) p = some S' ∧ (∀ i, i ≠ ib + 4 → i ≠ ib + 5 → i ≠ ib + 6 → S'.1 i = S.1 i) ∧ S'.1 (ib + 4) = mx (T.2.1 11 2) (nI a) ∧ S'.1 (ib + 5) = nI (c + 1) ∧ S'.1 (ib + 6) = T.1 14 + p ∧ S'.2.2 = S.2.2 ∧ (∀ x, (x < ab + 1 ∨ ab + 8 < x ∨ x = ab + 3 ∨ x = ab + 4) → S'.2.1 x = S.2.1 x) ∧
      (∀ j, S'.2.1 (ab + 1) j = if j = l then nxA r a pl else S.2.1 (ab + 1) j) ∧ (∀ j, S'.2.1 (ab + 2) j = if j = l then 1 else S.2.1 (ab + 2) j) ∧ (∀ j, S'.2.1 (ab + 5) j = if j = 3 * l + lift then (if p = 0 then nI b else mx (nI a) (nI b)) else S.2.1 (ab + 5) j) ∧ (∀ j, S'.2.1 (ab + 6) j = if j = l then (if p = 0 then nI (f + 1) else nI f) else S.2.1 (ab + 6) j) ∧ (∀ j, S'.2.1 (ab + 7) j = if j = l then nI a + p else S.2.1 (ab + 7) j) ∧
      (∀ j, S'.2.1 (ab + 8) j = if j = 4 * c + 3 then p else if j = 4 * c + 2 then nI a else if j = 4 * c + 1 then nI lift else if j = 4 * c then nI l else S.2.1 (ab + 8) j) := by
    have k1 : S.2.1 (ab + 1) l = nI a := c8.1.trans ea'
    have k6 : S.2.1 (ab + 6) l = nI f := c8.2.2.2.2.1.trans ef'
    have k5 : S.2.1 (ab + 5) (3 * l + lift) = nI b := (c8.2.2.2.2.2.2 lift hlift).trans eb'
    rcases hp01 with q | q
    · subst q
      obtain ⟨S', s1', s2', s3', s4', s5', s6', s7', s8', s9', s10', s11'⟩ := take8_0 (ib := ib) (ab := ab) (S := S) (bar := T.2.1 11 2) (l := l) hab (by omega) hlift j2 hc53 ha hf hpl (hv.lift.trans h0) (hv.round.trans h1) hv.bar (cm.2.2.2.2.2.1.trans ec) k1 k6 e8p
      refine ⟨S', s1', fun i q1 q2 _ => s2' i q1 q2, s3', s4', ?_, s5', fun x hx => s6' x (by omega), s7', s8', ?_, ?_, ?_, s11'⟩
      · rw [s2' _ (by omega) (by omega), cm.2.2.2.2.2.2.1, Int32.add_zero]
      · intro j
        rw [s6' _ (by omega), if_pos rfl]
        by_cases cj : j = 3 * l + lift
        · rw [if_pos cj, cj, k5]
        · rw [if_neg cj]
      · intro j
        rw [s9' j, if_pos rfl]
      · intro j
        rw [s10' j, Int32.add_zero]
    · subst q
      obtain ⟨S', s1', s2', s3', s4', s5', s6', s7', s8', s9', s10', s11', s12'⟩ := take8_1 (ib := ib) (ab := ab) (S := S) (bar := T.2.1 11 2) (g := T.1 14) (b := b) (l := l) hab (by omega) hlift j2 hc53 ha hpl (hv.lift.trans h0) (hv.round.trans h1) hv.bar (cm.2.2.2.2.2.1.trans ec) cm.2.2.2.2.2.2.1 k1 k5 e8p
      refine ⟨S', s1', s2', s3', s4', s5', s6', fun x hx => s7' x (by omega), s8', s9', ?_, ?_, ?_, s12'⟩
      · intro j
        rw [s10' j, if_neg (show ¬ (1 : Int32) = 0 by decide), mx_nat (by omega) (by omega), mx_nat (by omega) (by omega), Nat.max_comm]
      · intro j
        rw [s7' _ (by omega), if_neg (show ¬ (1 : Int32) = 0 by decide)]
        by_cases cj : j = l
        · rw [if_pos cj, cj, k6]
        · rw [if_neg cj]
      · intro j
        rw [s11' j, s1]
  obtain ⟨S', s1', s2', s3', s4', s5', s6', s7', s8', s9', s10', s11', s12', s13'⟩ := hprop
  have hM : FrM ib ab S S' := ⟨fun i hi => s2' i (by omega) (by omega) (by omega), fun x hx => s7' x (by omega), s6'⟩
  have hT : FrT T T' := by
    refine ⟨fun i q1 q2 q3 _ => t2 i q1 q2 q3, t7, t6, fun x hx => ?_, ?_, fun i hi => ?_⟩
    · have := t11 ((x - 3) / 10) ((x - 3) % 10) (by omega)
      rw [if_neg (by omega)] at this
      have q : 3 + 10 * ((x - 3) / 10) + (x - 3) % 10 = x := by omega
      unfold mt at this
      rw [q] at this
      exact this
    · rw [t3, ec, tiN (by omega), tiN (by omega)]; omega
    · rw [ec, tiN (by omega)] at hi
      rw [t12 i, if_neg (by omega), if_neg (by omega), if_neg (by omega), if_neg (by omega)]
  have m0 : mt T' l 0 = nxA r a pl := by rw [t11 l 0 (by omega), if_pos rfl, if_pos rfl]
  have m1 : mt T' l 1 = 1 := by rw [t11 l 1 (by omega), if_pos rfl]; rfl
  have m2 : mt T' l 2 = nI a := by rw [t11 l 2 (by omega), if_pos rfl]; rfl
  have m3 : mt T' l 3 = p := by rw [t11 l 3 (by omega), if_pos rfl]; rfl
  have m4 : mt T' l 4 = if p = 0 then nI (f + 1) else nI f := by rw [t11 l 4 (by omega), if_pos rfl]; rfl
  have m5 : mt T' l 5 = mt T l 5 := by rw [t11 l 5 (by omega), if_pos rfl, if_neg (by omega), if_neg (by omega), if_neg (by omega), if_neg (by omega), if_neg (by omega), if_neg (by omega)]
  have m6 : mt T' l 6 = mt T l 6 := by rw [t11 l 6 (by omega), if_pos rfl, if_neg (by omega), if_neg (by omega), if_neg (by omega), if_neg (by omega), if_neg (by omega), if_neg (by omega)]
  have m7 : ∀ t, t < 3 → mt T' l (7 + t) = if t = lift then (if p = 0 then nI b else mx (nI a) (nI b)) else mt T l (7 + t) := fun t ht => by
    rw [t11 l (7 + t) (by omega), if_pos rfl, if_neg (by omega), if_neg (by omega), if_neg (by omega), if_neg (by omega), if_neg (by omega)]
    by_cases q : t = lift
    · rw [if_pos q, if_pos (by rw [q])]
    · rw [if_neg q, if_neg (by omega)]
  have mo : ∀ j w, j ≠ l → w < 10 → mt T' j w = mt T j w := fun j w hjl hw => by rw [t11 j w hw, if_neg hjl]
  have hJ : MeetJ lift r (done + 1) k (T'.2.1 11) (T'.1 13) (T'.1 14) := by
    obtain ⟨g, hg, eg⟩ : ∃ g : Nat, g ≤ c ∧ T.1 14 = nI g := by
      rw [ec, tiN (by omega)] at j9
      obtain ⟨g, hg, eg⟩ := (show Rg (T.1 14) 0 54 from ⟨j8, by omega⟩).nat (n := 54)
      rw [eg, tiN (by omega)] at j9
      exact ⟨g, by omega, eg⟩
    have e14 : 0 ≤ (T'.1 14).toInt ∧ (T'.1 14).toInt ≤ c + 1 := by
      rw [t4, eg]
      rcases hp01 with q | q
      · rw [q, Int32.add_zero, tiN (by omega)]; omega
      · rw [q, s1, tiN (by omega)]; omega
    refine ⟨by omega, j2, t8, t9, ?_, fun q => absurd q (by omega), ?_, e14.1, ?_, ?_, fun q => absurd q (by omega), by omega, fun q => absurd q (by omega), ⟨fun i hi => ?_, ?_⟩, fun i hi => ?_⟩
    · rw [t10]
      have := j5.1; have := j5.2
      unfold Rg
      rw [mx_int, tiN (by omega)]; omega
    · rw [t3]; exact Rg.of (n := 54) (by omega) (by omega)
    · rw [t3, tiN (by omega)]; omega
    · rw [t3, tiN (by omega)]
      rw [ec, tiN (by omega)] at j10
      omega
    · by_cases q : i = l
      · subst q; exact Or.inr m1
      · rw [show T'.2.1 11 (3 + 10 * i + 1) = _ from mo i 1 q (by omega)]; exact j14 i hi
    · rw [← j14']
      apply cntR_up k 0 (l := l) (by omega) (by omega)
      · simp [htr']
      · rw [show T'.2.1 11 (3 + 10 * l + 1) = 1 from m1]; rfl
      · intro j hjl
        rw [show T'.2.1 11 (3 + 10 * j + 1) = _ from mo j 1 hjl (by omega)]
    · by_cases q : i = l
      · subst q
        have et : ∀ t, t < 3 → T'.2.1 11 (3 + 10 * i + 7 + t) = if t = lift then (if p = 0 then nI b else mx (nI a) (nI b)) else T.2.1 11 (3 + 10 * i + 7 + t) := fun t ht => by
          rw [Nat.add_assoc (3 + 10 * i)]; exact m7 t ht
        have hp1 : ¬ p = 0 → p = 1 := fun q => by rcases hp01 with z | z; exact absurd z q; exact z
        have ei : itsI (T'.2.1 11) i = if p = 0 then (a : Int) else a + 1 := by
          unfold itsI
          rw [show T'.2.1 11 (3 + 10 * i + 2) = nI a from m2, show T'.2.1 11 (3 + 10 * i + 3) = p from m3, if_neg (fun q => by rw [show (0 : Int32) = nI 0 from rfl, eqN (by omega) (by omega)] at q; omega), tiN (by omega)]
          by_cases q : p = 0
          · rw [if_pos q, q, i0]; omega
          · rw [if_neg q, hp1 q, i1]
        have enx : nxA r a pl ≠ 0 → r ≠ 2 ∧ a + pl ≤ 40 ∧ nxA r a pl = nI (a + pl) := fun q => by
          unfold nxA at q ⊢
          by_cases z : r = 2
          · rw [if_pos z] at q; exact absurd rfl q
          · rw [if_neg z] at q ⊢
            by_cases z2 : a + pl ≤ 40
            · rw [if_pos z2] at q ⊢; exact ⟨z, z2, rfl⟩
            · rw [if_neg z2] at q; exact absurd rfl q
        unfold OwnI
        rw [show T'.2.1 11 (3 + 10 * i + 0) = _ from m0, show T'.2.1 11 (3 + 10 * i + 1) = 1 from m1, show T'.2.1 11 (3 + 10 * i + 2) = nI a from m2, show T'.2.1 11 (3 + 10 * i + 3) = p from m3, show T'.2.1 11 (3 + 10 * i + 4) = _ from m4, show T'.2.1 11 (3 + 10 * i + 5) = _ from m5, show T'.2.1 11 (3 + 10 * i + 6) = _ from m6]
        refine ⟨?_, Rg.of (n := 40) ha (by omega), ?_, ?_, o5, o6, fun t ht => ?_, fun q => absurd (o8 q) hne, fun q => absurd q (by omega), fun t ht q => ?_, fun t ht q => ?_, fun _ hna => ?_⟩
        · by_cases q : nxA r a pl = 0
          · rw [q]; exact ⟨by decide, by decide⟩
          · rw [(enx q).2.2]; exact Rg.of (n := 40) (enx q).2.1 (by omega)
        · rcases hp01 with q | q <;> rw [q] <;> exact ⟨by decide, by decide⟩
        · split
          · exact Rg.of (n := 3) (by omega) (by omega)
          · exact Rg.of (n := 3) (by omega) (by omega)
        · rw [et t ht]
          split
          · split
            · exact Rg.of (n := 40) hb (by omega)
            · rw [mx_nat (by omega) (by omega)]; exact Rg.of (n := 40) (by omega) (by omega)
          · exact o7 t ht
        · rw [et t ht, if_neg (by omega)]; exact o10 t ht q
        · rw [et t ht, if_neg (by omega)]; exact o11 t ht q
        · obtain ⟨n1, n2, n3⟩ := enx hna
          rw [ei, n3, et lift hlift, if_pos rfl, i1, tiN (by omega)]
          by_cases q : p = 0
          · rw [if_pos q, if_pos q, if_pos q, tiN (by omega), tiN (by omega)]
            refine ⟨by omega, by omega, fun z => ?_, fun z => ?_, by omega, by omega, fun z => kk7 (by omega)⟩
            · exfalso
              rw [show (0 : Int32) = nI 0 from rfl, eqN (by omega) (by omega)] at z
              omega
            · exact kk4 (by omega)
          · have := hpl1 q
            rw [if_neg q, if_neg q, if_neg q, mx_nat (by omega) (by omega), tiN (by omega), tiN (by omega)]
            refine ⟨by omega, by omega, fun z => ?_, fun z => ?_, by omega, by omega, fun z => by omega⟩
            · omega
            · exfalso; omega
      · exact (j15 i hi).congr (fun w hw => mo i w q hw)
  have hv' : VR ib ab k S' T' := by
    refine hv.meet hib hab hM hT ?_ hJ.mk
    refine ⟨?_, ?_, ?_, ?_, ?_, ?_, ?_, ?_⟩
    · rw [s2' _ (by omega) (by omega) (by omega)]; exact hv.size
    · rw [s2' _ (by omega) (by omega) (by omega), t2 10 (by omega) (by omega) (by omega)]; exact hv.tire
    · rw [s2' _ (by omega) (by omega) (by omega), t8]; exact hv.lift.trans h0
    · rw [s2' _ (by omega) (by omega) (by omega), t9]; exact hv.round.trans h1
    · rw [s3', t10]
    · rw [s4', t3]
    · rw [s5', t4]
    · intro i hi
      obtain ⟨c1, c2, c3, c4, c5, c6, c7⟩ := hv.cell hi
      by_cases q : i = l
      · subst q
        refine ⟨?_, ?_, ?_, ?_, ?_, ?_, ?_⟩
        · rw [s8' i, if_pos rfl, m0]
        · rw [s9' i, if_pos rfl, m1]
        · rw [s7' _ (by omega), m5]; exact c3
        · rw [s7' _ (by omega), m6]; exact c4
        · rw [s11' i, if_pos rfl, m4]
        · rw [s12' i, if_pos rfl, m2, m3, if_neg (fun q => by rw [show (0 : Int32) = nI 0 from rfl, eqN (by omega) (by omega)] at q; omega)]
        · intro t ht
          rw [s10', m7 t ht]
          by_cases z : t = lift
          · rw [if_pos z, if_pos (by rw [z])]
          · rw [if_neg z, if_neg (by omega)]; exact c7 t ht
      · refine ⟨?_, ?_, ?_, ?_, ?_, ?_, ?_⟩
        · rw [s8' i, if_neg q, mo i 0 q (by omega)]; exact c1
        · rw [s9' i, if_neg q, mo i 1 q (by omega)]; exact c2
        · rw [s7' _ (by omega), mo i 5 q (by omega)]; exact c3
        · rw [s7' _ (by omega), mo i 6 q (by omega)]; exact c4
        · rw [s11' i, if_neg q, mo i 4 q (by omega)]; exact c5
        · rw [s12' i, if_neg q, mo i 2 q (by omega), mo i 3 q (by omega)]; exact c6
        · intro t ht
          rw [s10', if_neg (by omega), mo i (7 + t) q (by omega)]; exact c7 t ht
  refine ⟨S', T', s1', t1, hv', hM, hT, ?_, ?_, ?_, ?_, t2 39 (by omega) (by omega) (by omega), ?_⟩
  · intro hlog i hi
    rw [t3, tiN (by omega)] at hi
    rw [s13' i, t12 i]
    by_cases q3 : i = 4 * c + 3
    · rw [if_pos q3, if_pos q3]
    rw [if_neg q3, if_neg q3]
    by_cases q2 : i = 4 * c + 2
    · rw [if_pos q2, if_pos q2]
    rw [if_neg q2, if_neg q2]
    by_cases q1 : i = 4 * c + 1
    · rw [if_pos q1, if_pos q1]
    rw [if_neg q1, if_neg q1]
    by_cases q0 : i = 4 * c
    · rw [if_pos q0, if_pos q0]
    rw [if_neg q0, if_neg q0]
    exact hlog i (by rw [ec, tiN (by omega)]; omega)
  · intro hbit i hi
    rw [s9' i, s7' (ab + 4) (by omega)]
    refine ⟨?_, (hbit i hi).2⟩
    split
    · exact Or.inr rfl
    · exact (hbit i hi).1
  · rw [t3, ec, tiN (by omega), tiN (by omega)]; omega
  · rw [t5, s8' l, if_pos rfl]
  · rw [ec, tiN (by omega)]; omega
