/-! ===== layer B: duel and bluff ===== -/
theorem odds_d {k l : Nat} {S T : St} (hv : VR 30 25 k S T) (hl : l < k) (h2 : T.2.1 11 0 = nI 2) (h0 : nM T l 0 ≠ 0) {x : Nat} (hx1 : 1 ≤ x) (hx : x ≤ 40) : m_X3_oddsOf S l 2 (nI x) ((S.2.1 31 l) * (S.1 31)) = some (nI (odN T l 2 x (nM T l 4))) := by
  obtain ⟨a1, a2, a3, a4, a5, a6, a7, a8, a9, a10⟩ := duelOwn hv hl h2 h0
  have e1 : S.2.1 31 l = mt T l 4 := (hv.cell hl).2.2.2.2.1
  have e2 : S.1 31 = T.1 10 := hv.tire
  have ho := od_nat hv hl (show 2 < 3 by omega) hx a4
  rw [show m_X3_oddsOf S l 2 (nI x) ((S.2.1 31 l) * (S.1 31)) = _ from odds8 hv hl (show 2 < 3 by omega) hx1 hx _, e1, e2, a3, Int32.mul_comm, ← ho.1]
  rfl
theorem up182_L {k la lb : Nat} {S T : St} (hv : VR 30 25 k S T) (hla : la < k) (hlb : lb < k) (h2 : T.2.1 11 0 = nI 2) (h9 : nM T la 0 ≠ 0) (h10 : nM T lb 0 ≠ 0) : ∀ e x n P, x + e = 41 → 1 ≤ x → e + 1 ≤ n → (∀ x', 1 ≤ x' → x' < x → P.2.1 82 x' = nI ((dQ T la lb).1 x') ∧ P.2.1 83 x' = nI ((dQ T la lb).2.1 x')) →
    ∃ P', m_X1_meetUp_L182 n S P (nI la) (nI lb) (nI x) = some P' ∧ P'.1 = P.1 ∧ (∀ x', 1 ≤ x' → x' ≤ 40 → P'.2.1 82 x' = nI ((dQ T la lb).1 x') ∧ P'.2.1 83 x' = nI ((dQ T la lb).2.1 x')) := by
  have hk := hv.1
  intro e
  induction e with
  | zero =>
    intro x n P hx hx1 hn hc
    obtain ⟨m, rfl⟩ : ∃ m, n = m + 1 := ⟨n - 1, by omega⟩
    refine ⟨P, ?_, rfl, fun x' q1 q2 => hc x' q1 (by omega)⟩
    unfold m_X1_meetUp_L182
    rw [lit32 40, if_pos (show nI 40 < nI x by rw [ltN (by omega) (by omega)]; omega)]
  | succ e ih =>
    intro x n P hx hx1 hn hc
    obtain ⟨m, rfl⟩ : ∃ m, n = m + 1 := ⟨n - 1, by omega⟩
    obtain ⟨P', g1, g2, g3⟩ := ih (x + 1) m (sA (sA P 82 x (nI ((dQ T la lb).1 x))) 83 x (nI ((dQ T la lb).2.1 x))) (by omega) (by omega) (by omega) (fun x' q1 q2 => by
      by_cases cx : x' = x
      · rw [cx]; exact ⟨by rw [sA_row (by omega), sA_eq], sA_eq⟩
      · rw [sA_off cx, sA_off cx, sA_off cx, sA_off cx]; exact hc x' q1 (by omega))
    refine ⟨P', ?_, g2, g3⟩
    unfold m_X1_meetUp_L182
    rw [lit32 40, if_neg (show ¬ nI 40 < nI x by rw [ltN (by omega) (by omega)]; omega), ckN (by omega) (by omega), ckN (by omega) (by omega), clN (by omega), odds_d hv hla h2 h9 hx1 (by omega), Option.bind_some, ckN (by omega) (by omega), nmE, ckN (by omega) (by omega), ckN (by omega) (by omega), clN (by omega), odds_d hv hlb h2 h10 hx1 (by omega), Option.bind_some, ckN (by omega) (by omega), nmE, clN (by omega), s1]
    exact g1
theorem meetUp8 {k la lb n : Nat} {S T : St} (P : St) (hv : VR 30 25 k S T) (hla : la < k) (hlb : lb < k) (h2 : T.2.1 11 0 = nI 2) (h9 : nM T la 0 ≠ 0) (h10 : nM T lb 0 ≠ 0) (hw : DW (dQ T la lb)) (hn : 200 ≤ n) : ∃ P', m_X1_meetUp n S P (nI la) (nI lb) = some P' ∧ PI (dQ T la lb) P' := by
  have hk := hv.1
  obtain ⟨a1, a2, a3, a4, a5, a6, a7, a8, a9, a10⟩ := duelOwn hv hla h2 h9
  obtain ⟨b1, b2, b3, b4, b5, b6, b7, b8, b9, b10⟩ := duelOwn hv hlb h2 h10
  obtain ⟨c1, c2, c3, c4, c5, c6, c7⟩ := hv.cell hla
  obtain ⟨d1, d2, d3, d4, d5, d6, d7⟩ := hv.cell hlb
  have c70 : S.2.1 30 (3 * la) = nI (nM T la 7) := (c7 0 (by omega)).trans a5
  have c71 : S.2.1 30 (3 * la + 1) = nI (nM T la 8) := (c7 1 (by omega)).trans a7
  have c72 : S.2.1 30 (3 * la + 2) = nI (nM T la 9) := (c7 2 (by omega)).trans a9
  have d70 : S.2.1 30 (3 * lb) = nI (nM T lb 7) := (d7 0 (by omega)).trans b5
  have d71 : S.2.1 30 (3 * lb + 1) = nI (nM T lb 8) := (d7 1 (by omega)).trans b7
  have d72 : S.2.1 30 (3 * lb + 2) = nI (nM T lb 9) := (d7 2 (by omega)).trans b9
  have c0 : S.2.1 26 la = nI (nM T la 0) := c1.trans a1
  have d0 : S.2.1 26 lb = nI (nM T lb 0) := d1.trans b1
  have hlot : ((if (S.1 (11 + 2 * lb)) ≤ (S.1 (11 + 2 * la)) then (some 0) else (some 1) : Option (Int32))) = some (nI ((dQ T la lb).2.2 5)) := by
    rw [hv.lot hla, hv.lot hlb]
    show _ = some (nI (if T.2.1 5 lb ≤ T.2.1 5 la then 0 else 1))
    split <;> rfl
  have hlead : m_X3_leadsLike S la lb = some (nI ((dQ T la lb).2.2 4)) := (leadsN hv hla hlb).1
  have w4 := hw.2.2.2.2.2.2.2.1
  have w5 := hw.2.2.2.2.2.2.2.2
  have hkA : ((if nI (nM T la 9) = 0 then (some 0) else (some (nI (nM T la 7 + nM T la 8) + nI (nM T la 9))) : Option (Int32))) = some (nI (tot ((dQ T la lb).2.2 0) ((dQ T la lb).2.2 2))) := by
    show _ = some (nI (tot (nM T la 7 + nM T la 8) (nM T la 9)))
    rw [if0N (by omega), nI_add]
    unfold tot
    split <;> rfl
  have hkB : ((if nI (nM T lb 9) = 0 then (some 0) else (some (nI (nM T lb 7 + nM T lb 8) + nI (nM T lb 9))) : Option (Int32))) = some (nI (tot ((dQ T la lb).2.2 1) ((dQ T la lb).2.2 3))) := by
    show _ = some (nI (tot (nM T lb 7 + nM T lb 8) (nM T lb 9)))
    rw [if0N (by omega), nI_add]
    unfold tot
    split <;> rfl
  obtain ⟨P0, hP0⟩ : ∃ P0, P0 = sI (sI (sI (sI (sI (sI (sI (sI P 70 (nI ((dQ T la lb).2.2 4))) 71 (nI ((dQ T la lb).2.2 5))) 72 (nI (nM T la 0))) 73 (nI (nM T lb 0))) 74 (nI (nM T la 7 + nM T la 8))) 75 (nI (nM T lb 7 + nM T lb 8))) 76 (nI (tot ((dQ T la lb).2.2 0) ((dQ T la lb).2.2 2)))) 77 (nI (tot ((dQ T la lb).2.2 1) ((dQ T la lb).2.2 3))) := ⟨_, rfl⟩
  obtain ⟨P1, f1, f2, f3⟩ := up182_L hv hla hlb h2 h9 h10 40 1 n P0 (by omega) (by omega) (by omega) (fun x' q1 q2 => absurd q2 (by omega))
  have hPT : PT8 (dQ T la lb) P1 := by
    unfold PT8
    rw [f2, hP0]
    refine ⟨?_, ?_, ?_, ?_, ?_, ?_, ?_, ?_, f3⟩
    · rw [sI_ne (by omega), sI_ne (by omega), sI_ne (by omega), sI_ne (by omega), sI_ne (by omega), sI_ne (by omega), sI_ne (by omega), sI_eq]
    · rw [sI_ne (by omega), sI_ne (by omega), sI_ne (by omega), sI_ne (by omega), sI_ne (by omega), sI_ne (by omega), sI_eq]
    · rw [sI_ne (by omega), sI_ne (by omega), sI_ne (by omega), sI_ne (by omega), sI_ne (by omega), sI_eq]; rfl
    · rw [sI_ne (by omega), sI_ne (by omega), sI_ne (by omega), sI_ne (by omega), sI_eq]; rfl
    · rw [sI_ne (by omega), sI_ne (by omega), sI_ne (by omega), sI_eq]; rfl
    · rw [sI_ne (by omega), sI_ne (by omega), sI_eq]; rfl
    · rw [sI_ne (by omega), sI_eq]
    · rw [sI_eq]
  obtain ⟨P', g1, g2, g3⟩ := second8 hw S (n := n) hPT (by omega)
  refine ⟨P', ?_, g3⟩
  unfold m_X1_meetUp
  rw [ckN (by omega) (by omega), ckN (by omega) (by omega), clN (by omega), clN (by omega), hlead, Option.bind_some, ckbN w4, nmE, ckN (by omega) (by omega), ckN (by omega) (by omega), hlot, Option.bind_some, ckbN w5, nmE, ckN (by omega) (by omega), nmE, c0, ckN (by omega) (by omega), nmE, d0, m3, s1, ckN (by omega) (by omega), ckN (by omega) (by omega), nmE, clN (by omega), clN (by omega), c70, c71, nI_add, m3, s1, ckN (by omega) (by omega), ckN (by omega) (by omega), nmE, clN (by omega), clN (by omega), d70, d71, nI_add, s2, s2, ckN (by omega) (by omega), ckN (by omega) (by omega), clN (by omega), clN (by omega), c72, d72]
  rw [sI_ne (show 74 ≠ 75 by omega), sI_eq, hkA, Option.bind_some, nmE, sI_ne (show 75 ≠ 76 by omega), sI_eq, hkB, Option.bind_some, nmE, ← hP0, show m_X1_meetUp_L182 n S P0 (nI la) (nI lb) 1 = _ from f1, Option.bind_some, g1]
  rfl
theorem three8 (S : St) (a b c : Int64) : (sJ (sJ (sJ S 58 0 a) 58 1 b) 58 2 c).2.2.1 58 0 = a ∧ (sJ (sJ (sJ S 58 0 a) 58 1 b) 58 2 c).2.2.1 58 1 = b ∧ (sJ (sJ (sJ S 58 0 a) 58 1 b) 58 2 c).2.2.1 58 2 = c := by
  refine ⟨?_, ?_, ?_⟩
  · rw [sJ_221, if_pos rfl, if_neg (by omega)]; exact (two8 S a b).1
  · rw [sJ_221, if_pos rfl, if_neg (by omega)]; exact (two8 S a b).2
  · rw [sJ_221, if_pos rfl, if_pos rfl]
/-- what the class tells -/
def tells8 (S : St) (D : DD) (la lb c d : Nat) (t : Int32) : St := sI (sJ (sJ (sJ S 58 0 (if fst D (D.2.2 6) (D.2.2 7) = true then nI la else nI lb).toInt64) 58 1 (nI (dC D c d (D.2.2 6) (D.2.2 7))).toInt64) 58 2 (nI (dV D 0 0 (D.2.2 6) (D.2.2 7))).toInt64) 0 t
/-- from the meeting on -/
def fightR (n : Nat) (S P : St) (p0 p1 p2 p3 p4 : Int32) : Option (Int32 × St × St) := onw (S.2.2.2 3) 1 (fun j12 => (m_X1_meetUp n S P p0 p1).bind (fun r15 => onw (S.2.2.2 3) 1 (fun j17 => (m_X1_solve n S r15 p2 p3).bind (fun r20 => onw (S.2.2.2 3) 1 (fun j22 => (m_X1_firstCalled S r20.2).bind (fun r25 => ((if r25 = 0 then (some p1.toInt64) else (some p0.toInt64) : Option (Int64))).bind (fun q28 => ck 0 9 (nm (sJ S 58 ((0 : Int32).toNatClampNeg) q28) (fun S31 => onw (S31.2.2.2 3) 1 (fun j33 => (m_X1_chosen n S31 r20.2 p2 p3).bind (fun r36 => ck 1 9 (nm (sJ S31 58 ((1 : Int32).toNatClampNeg) r36.toInt64) (fun S39 => onw (S39.2.2.2 3) 1 (fun j41 => (m_X1_valueAt S39 r20.2 0 0).bind (fun r44 => ck 2 9 (nm (sJ S39 58 ((2 : Int32).toNatClampNeg) r44.toInt64) (fun S47 => nm (sI S47 0 p4) (fun S49 => some (r20.1, S49, r20.2)))))))))))))))))))
theorem fightR8 {k la lb c d n : Nat} {S T : St} (P : St) (t : Int32) (hv : VR 30 25 k S T) (hla : la < k) (hlb : lb < k) (h2 : T.2.1 11 0 = nI 2) (h9 : nM T la 0 ≠ 0) (h10 : nM T lb 0 ≠ 0) (hw : DW (dQ T la lb)) (hc : c ≤ 2) (hd : d ≤ 2) (hn : 200 ≤ n) (h3 : S.2.2.2 3 = some 0) :
    ∃ P', fightR n S P (nI la) (nI lb) (nI c) (nI d) t = some (nI (dV (dQ T la lb) c d ((dQ T la lb).2.2 6) ((dQ T la lb).2.2 7)), tells8 S (dQ T la lb) la lb c d t, P') := by
  obtain ⟨P1, f1, f2⟩ := meetUp8 P hv hla hlb h2 h9 h10 hw hn
  obtain ⟨P', g1, g2, g3, g4⟩ := solve8d hw S (n := n) hc hd (by omega) f2
  have w := hw.2.2.2
  refine ⟨P', ?_⟩
  obtain ⟨D, hD⟩ : ∃ D, D = dQ T la lb := ⟨_, rfl⟩
  rw [← hD] at hw f2 g1 g3 g4 w ⊢
  have k1 : m_X1_firstCalled S P' = some (if fst D (D.2.2 6) (D.2.2 7) = true then 1 else 0) := by
    unfold m_X1_firstCalled
    rw [g3.1.2.2.1, g3.1.2.2.2.1, first8d S hw g3.1 (by omega) (by omega), Option.bind_some]
    split <;> rfl
  have k2 : ((if (if fst D (D.2.2 6) (D.2.2 7) = true then (1 : Int32) else 0) = 0 then (some (nI lb).toInt64) else (some (nI la).toInt64) : Option (Int64))) = some (if fst D (D.2.2 6) (D.2.2 7) = true then nI la else nI lb).toInt64 := by
    by_cases cf : fst D (D.2.2 6) (D.2.2 7) = true
    · rw [if_pos cf, if_pos cf, if_neg (show ¬ (1 : Int32) = 0 by decide)]
    · rw [if_neg cf, if_neg cf, if_pos rfl]
  unfold fightR
  rw [h3, onw_some (by omega), f1, Option.bind_some, onw_some (by omega), g1, Option.bind_some, onw_some (by omega), k1, Option.bind_some, k2, Option.bind_some, show ∀ {α : Type} (x : Option α), ck 0 9 x = x from fun x => rfl, nmE, sJ_222, h3, onw_some (by omega), chosen8d hw _ hc hd (by omega) g3 g4, Option.bind_some, show ∀ {α : Type} (x : Option α), ck 1 9 x = x from fun x => rfl, nmE, sJ_222, sJ_222, h3, onw_some (by omega), show m_X1_valueAt _ P' 0 0 = _ from valueAt8d hw _ (show 0 ≤ 2 by omega) (show 0 ≤ 2 by omega) g3 (g4 0 0 (by omega) (by omega)), Option.bind_some, show ∀ {α : Type} (x : Option α), ck 2 9 x = x from fun x => rfl, nmE, nmE]
  rfl
theorem wt_nz {ib ab k l : Nat} {S T : St} (hv : VR ib ab k S T) (hl : l < k) (h : wt T l = true) : nM T l 0 ≠ 0 := by
  have h1 := (of_decide_eq_true h).1
  intro q
  apply h1
  rw [show mt T l 0 = nI (nM T l 0) from (now_T hv hl).2.2.2.2.1, q]
  decide
theorem why9 {k la lb : Nat} {S T : St} (hv : VR 30 25 k S T) (hla : la < k) (hlb : lb < k) : m_X9_whyNoDuel T (nI la) (nI lb) = some (if T.2.1 11 0 = 2 ∧ T.2.1 11 1 = 2 then (if wt T la = true ∧ wt T lb = true then 0 else -3) else -2) := by
  unfold m_X9_whyNoDuel
  rw [show ∀ {α : Type} (x : Option α), ck 0 63 x = x from fun x => rfl, show ∀ {α : Type} (x : Option α), ck 1 63 x = x from fun x => rfl, show (0 : Int32).toNatClampNeg = 0 from rfl, show (1 : Int32).toNatClampNeg = 1 from rfl, still_eq hv.rt hla, still_eq hv.rt hlb, Option.bind_some, Option.bind_some]
  by_cases c1 : T.2.1 11 0 = 2
  · rw [if_pos c1]
    by_cases c2 : T.2.1 11 1 = 2
    · rw [if_pos c2, if_pos (show T.2.1 11 0 = 2 ∧ T.2.1 11 1 = 2 from ⟨c1, c2⟩)]
      by_cases c3 : wt T la = true
      · rw [if_pos c3, if_neg (show ¬ (1 : Int32) = 0 by decide)]
        by_cases c4 : wt T lb = true
        · rw [if_pos c4, if_neg (show ¬ (1 : Int32) = 0 by decide), if_pos (show wt T la = true ∧ wt T lb = true from ⟨c3, c4⟩)]
        · rw [if_neg c4, if_pos rfl, if_neg (show ¬ (wt T la = true ∧ wt T lb = true) from fun q => c4 q.2)]
      · rw [if_neg c3, if_pos rfl, if_neg (show ¬ (wt T la = true ∧ wt T lb = true) from fun q => c3 q.1)]
    · rw [if_neg c2, if_neg (show ¬ (T.2.1 11 0 = 2 ∧ T.2.1 11 1 = 2) from fun q => c2 q.2)]
  · rw [if_neg c1, if_neg (show ¬ (T.2.1 11 0 = 2 ∧ T.2.1 11 1 = 2) from fun q => c1 q.1)]
/-- the class: refused, or not -/
theorem fight8 {k la lb n : Nat} {S T : St} (P : St) (c d t : Int32) (hv : VR 30 25 k S T) (hla : la < k) (hlb : lb < k) : m_X8_fight n S P (nI la) (nI lb) c d t = if T.2.1 11 0 = 2 ∧ T.2.1 11 1 = 2 then (if wt T la = true ∧ wt T lb = true then onw (S.2.2.2 3) 1 (fun _ => fightR n S P (nI la) (nI lb) c d t) else some (-3, S, P)) else some (-2, S, P) := by
  have e2 : S.1 32 = T.2.1 11 0 := hv.lift
  have e3 : S.1 33 = T.2.1 11 1 := hv.round
  unfold m_X8_fight
  rw [e2, e3, hv.waits hla, hv.waits hlb, Option.bind_some, Option.bind_some]
  by_cases c1 : T.2.1 11 0 = 2
  · rw [if_pos c1]
    by_cases c2 : T.2.1 11 1 = 2
    · rw [if_pos c2, if_pos (show T.2.1 11 0 = 2 ∧ T.2.1 11 1 = 2 from ⟨c1, c2⟩)]
      by_cases c3 : wt T la = true
      · rw [if_pos c3, if_neg (show ¬ (1 : Int32) = 0 by decide)]
        by_cases c4 : wt T lb = true
        · rw [if_pos c4, if_neg (show ¬ (1 : Int32) = 0 by decide), if_pos (show wt T la = true ∧ wt T lb = true from ⟨c3, c4⟩)]; rfl
        · rw [if_neg c4, if_pos rfl, if_neg (show ¬ (wt T la = true ∧ wt T lb = true) from fun q => c4 q.2)]
      · rw [if_neg c3, if_pos rfl, if_neg (show ¬ (wt T la = true ∧ wt T lb = true) from fun q => c3 q.1)]
    · rw [if_neg c2, if_neg (show ¬ (T.2.1 11 0 = 2 ∧ T.2.1 11 1 = 2) from fun q => c2 q.2)]
  · rw [if_neg c1, if_neg (show ¬ (T.2.1 11 0 = 2 ∧ T.2.1 11 1 = 2) from fun q => c1 q.1)]
theorem fightN8 {k la lb : Nat} {S T : St} (c d t : Int32) (hv : VR 30 25 k S T) (hla : la < k) (hlb : lb < k) (hno : ¬ (T.2.1 11 0 = 2 ∧ T.2.1 11 1 = 2 ∧ wt T la = true ∧ wt T lb = true)) : m_X8_fightN S (nI la) (nI lb) c d t = some (if T.2.1 11 0 = 2 ∧ T.2.1 11 1 = 2 then -3 else -2, S) := by
  have e2 : S.1 32 = T.2.1 11 0 := hv.lift
  have e3 : S.1 33 = T.2.1 11 1 := hv.round
  unfold m_X8_fightN
  rw [e2, e3, hv.waits hla, hv.waits hlb, Option.bind_some, Option.bind_some]
  by_cases c1 : T.2.1 11 0 = 2
  · rw [if_pos c1]
    by_cases c2 : T.2.1 11 1 = 2
    · rw [if_pos c2, if_pos (show T.2.1 11 0 = 2 ∧ T.2.1 11 1 = 2 from ⟨c1, c2⟩)]
      by_cases c3 : wt T la = true
      · rw [if_pos c3, if_neg (show ¬ (1 : Int32) = 0 by decide)]
        by_cases c4 : wt T lb = true
        · exact absurd ⟨c1, c2, c3, c4⟩ hno
        · rw [if_neg c4, if_pos rfl]
      · rw [if_neg c3, if_pos rfl]
    · rw [if_neg c2, if_neg (show ¬ (T.2.1 11 0 = 2 ∧ T.2.1 11 1 = 2) from fun q => c2 q.2)]
  · rw [if_neg c1, if_neg (show ¬ (T.2.1 11 0 = 2 ∧ T.2.1 11 1 = 2) from fun q => c1 q.1)]
theorem fightB8 {k la lb n : Nat} {S T : St} (c d t : Int32) (hv : VR 30 25 k S T) (hla : la < k) (hlb : lb < k) (h1 : T.2.1 11 0 = 2) (h2 : T.2.1 11 1 = 2) (h3 : wt T la = true) (h4 : wt T lb = true) (hz : S.2.2.2 3 = none) (hww : S.2.2.2 0 = none ∨ ∃ j, j < 7 ∧ S.2.2.2 0 = some j) :
    m_X8_fightB n S (nI la) (nI lb) c d t = (fightR n (sR S 3 (some 0)) Pr0 (nI la) (nI lb) c d t).bind (fun r => some (r.1, r.2.1, some r.2.2)) := by
  have e2 : S.1 32 = T.2.1 11 0 := hv.lift
  have e3 : S.1 33 = T.2.1 11 1 := hv.round
  have hckw : ∀ {α : Type} (x : Option α), ckw (S.2.2.2 0) x = x := fun x => by
    rcases hww with q | ⟨j, hj, q⟩
    · rw [q]; rfl
    · rw [q]; exact if_pos hj
  have hckz : ∀ {α : Type} (x : Option α), ckz (S.2.2.2 3) x = x := fun x => by rw [hz]; rfl
  unfold m_X8_fightB fightR
  rw [e2, e3, hv.waits hla, hv.waits hlb, Option.bind_some, Option.bind_some, if_pos h1, if_pos h2, if_pos h3, if_pos h4, if_neg (show ¬ (1 : Int32) = 0 by decide), if_neg (show ¬ (1 : Int32) = 0 by decide), hckz, hckw, nmE, nmE]
  have q3 : (sR S 3 (some 0)).2.2.2 3 = some 0 := by rw [sR_222, if_pos rfl]
  rw [q3, onw_some (by omega), onw_some (by omega)]
  cases m_X1_meetUp n (sR S 3 (some 0)) Pr0 (nI la) (nI lb) with
  | none => rfl
  | some r15 =>
    rw [Option.bind_some, Option.bind_some, onw_some (by omega), onw_some (by omega)]
    cases m_X1_solve n (sR S 3 (some 0)) r15 c d with
    | none => rfl
    | some r20 =>
      rw [Option.bind_some, Option.bind_some, onw_some (by omega), onw_some (by omega)]
      cases m_X1_firstCalled (sR S 3 (some 0)) r20.2 with
      | none => rfl
      | some r25 =>
        rw [Option.bind_some, Option.bind_some]
        cases ((if r25 = 0 then (some (nI lb).toInt64) else (some (nI la).toInt64) : Option (Int64))) with
        | none => rfl
        | some q28 =>
          rw [Option.bind_some, Option.bind_some, show ∀ {α : Type} (x : Option α), ck 0 9 x = x from fun x => rfl, show ∀ {α : Type} (x : Option α), ck 0 9 x = x from fun x => rfl, nmE, nmE, sJ_222, q3, onw_some (by omega), onw_some (by omega)]
          cases m_X1_chosen n (sJ (sR S 3 (some 0)) 58 ((0 : Int32).toNatClampNeg) q28) r20.2 c d with
          | none => rfl
          | some r36 =>
            rw [Option.bind_some, Option.bind_some, show ∀ {α : Type} (x : Option α), ck 1 9 x = x from fun x => rfl, show ∀ {α : Type} (x : Option α), ck 1 9 x = x from fun x => rfl, nmE, nmE, sJ_222, sJ_222, q3, onw_some (by omega), onw_some (by omega)]
            cases m_X1_valueAt (sJ (sJ (sR S 3 (some 0)) 58 ((0 : Int32).toNatClampNeg) q28) 58 ((1 : Int32).toNatClampNeg) r36.toInt64) r20.2 0 0 with
            | none => rfl
            | some r44 => rfl
