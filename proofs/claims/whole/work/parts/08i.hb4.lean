/-! ===== layer B: needs, sign ===== -/
theorem sm_set {T : St} {l t v : Nat} (ht : t < 3) (ho : mt T l 6 ≠ 1) (h7 : Rg (mt T l 7) 0 40) (h8 : Rg (mt T l 8) 0 40) (h9 : Rg (mt T l 9) 0 40) (hv : v ≤ 40) : (sm (sA T 11 (3 + 10 * l + (7 + t)) (nI v)) l).toInt = (sm T l).toInt - (mt T l (7 + t)).toInt + v := by
  obtain ⟨a, ha, ea⟩ := h7.nat (n := 40)
  obtain ⟨b, hb, eb⟩ := h8.nat (n := 40)
  obtain ⟨c, hc, ec⟩ := h9.nat (n := 40)
  unfold sm
  rw [mt_set (by omega) (by omega), mt_set (by omega) (by omega), mt_set (by omega) (by omega), mt_set (by omega) (by omega), if_neg (show ¬ (l = l ∧ 6 = 7 + t) by omega), if_neg ho, if_neg ho]
  rcases (by omega : t = 0 ∨ t = 1 ∨ t = 2) with rfl | rfl | rfl
  · rw [if_pos (show l = l ∧ 7 = 7 + 0 from ⟨rfl, rfl⟩), if_neg (show ¬ (l = l ∧ 8 = 7 + 0) by omega), if_neg (show ¬ (l = l ∧ 9 = 7 + 0) by omega), show mt T l (7 + 0) = nI a from ea, eb, ec, nI_add, nI_add, nI_add, nI_add, tiN (by omega), tiN (by omega), tiN (by omega)]
    omega
  · rw [if_neg (show ¬ (l = l ∧ 7 = 7 + 1) by omega), if_pos (show l = l ∧ 8 = 7 + 1 from ⟨rfl, rfl⟩), if_neg (show ¬ (l = l ∧ 9 = 7 + 1) by omega), show mt T l (7 + 1) = nI b from eb, ea, ec, nI_add, nI_add, nI_add, nI_add, tiN (by omega), tiN (by omega), tiN (by omega)]
    omega
  · rw [if_neg (show ¬ (l = l ∧ 7 = 7 + 2) by omega), if_neg (show ¬ (l = l ∧ 8 = 7 + 2) by omega), if_pos (show l = l ∧ 9 = 7 + 2 from ⟨rfl, rfl⟩), show mt T l (7 + 2) = nI c from ec, ea, eb, nI_add, nI_add, nI_add, tiN (by omega), tiN (by omega), tiN (by omega)]
    omega
theorem mx_nat {a b : Nat} (ha : a < 2147483648) (hb : b < 2147483648) : mx (nI a) (nI b) = nI (max a b) := by
  unfold mx
  rw [ifltN ha hb]
  by_cases c : a < b
  · rw [if_pos c, Nat.max_eq_right (by omega)]
  · rw [if_neg c, Nat.max_eq_left (by omega)]
theorem best_rg {ib ab k l t : Nat} {S T : St} (hv : VR ib ab k S T) (hl : l < k) (ht : t < 3) : Rg (mt T l (7 + t)) 0 40 := by
  obtain ⟨_, _, _, _, _, _, ⟨q7, q8, q9⟩, _⟩ := hv.own hl
  rcases (by omega : t = 0 ∨ t = 1 ∨ t = 2) with rfl | rfl | rfl
  · exact q7
  · exact q8
  · exact q9
def nPr (T : St) (l t o x : Nat) : Bool := decide (pkk (sA T 11 (3 + 10 * l + (7 + t)) (mx (mt T l (7 + t)) (nI x))) l < pkk T o)
theorem would8 {k l o t x : Nat} {S T : St} (hv : VR 30 25 k S T) (hl : l < k) (ho : o < k) (ht : t < 3) (et : T.2.1 11 0 = nI t) (o1 : mt T l 6 = 0) (o2 : mt T o 6 = 0) (hx : x ≤ 40) : m_X4_wouldLead 30 25 S (nI l) (nI x) (nI o) = some (if nPr T l t o x = true then 1 else 0) := by
  have hk := hv.1
  obtain ⟨_, _, _, _, _, _, ⟨q7, q8, q9⟩, _⟩ := hv.own hl
  obtain ⟨b, hb, eb⟩ := (best_rg hv hl ht).nat (n := 40)
  have hs := hv.smr hl
  have hs2 := hv.smr ho
  obtain ⟨s, hs1, es⟩ := hs.nat (n := 120)
  have hsb : b ≤ s := by
    obtain ⟨x7, hx7, e7⟩ := q7.nat (n := 40)
    obtain ⟨x8, hx8, e8⟩ := q8.nat (n := 40)
    obtain ⟨x9, hx9, e9⟩ := q9.nat (n := 40)
    unfold sm at es
    rw [if_neg (by rw [o1]; decide), e7, e8, e9, nI_add, nI_add, eqN (by omega) (by omega)] at es
    rcases (by omega : t = 0 ∨ t = 1 ∨ t = 2) with rfl | rfl | rfl
    · have := e7.symm.trans eb; rw [eqN (by omega) (by omega)] at this; omega
    · have := e8.symm.trans eb; rw [eqN (by omega) (by omega)] at this; omega
    · have := e9.symm.trans eb; rw [eqN (by omega) (by omega)] at this; omega
  unfold m_X4_wouldLead nPr
  simp only [nmE]
  rw [show S.1 (30 + 2) = nI t from hv.lift.trans et, lit32 3, if_pos (by rw [ltN (by omega) (by omega)]; omega), show nI l * nI 3 + nI t = nI (3 * l + t) by rw [pk_mul, nI_add, Nat.mul_comm], ckN (by omega) (by omega), clN (by omega), sum8 hv hl, sum8 hv ho]
  simp only [Option.bind_some]
  rw [show S.2.1 (25 + 5) (3 * l + t) = nI b from ((hv.cell hl).2.2.2.2.2.2 t ht).trans eb, eb, mx_nat (by omega) (by omega), ckN (by omega) (by omega), ckN (by omega) (by omega), clN (by omega), clN (by omega), leads8 hv hl ho]
  have hm : max b x ≤ 40 := by omega
  have h1 := sm_set (v := max b x) ht (by rw [o1]; decide) q7 q8 q9 hm
  rw [es, eb, tiN (by omega), tiN (by omega)] at h1
  rw [es, subN hsb, nI_add]
  have p1 : pkk (sA T 11 (3 + 10 * l + (7 + t)) (nI (max b x))) l = 0 - ((s : Int) - b + max b x) * 100000 + (T.2.1 4 l).toInt * 100 + (T.2.1 5 l).toInt := by
    unfold pkk
    rw [h1, mt_set (by omega) (by omega), if_neg (by omega), o1, sA_row (by omega), sA_row (by omega)]
    have : Int32.toInt 0 = 0 := rfl
    omega
  have p2 : pkk T o = 0 - (sm T o).toInt * 100000 + (T.2.1 4 o).toInt * 100 + (T.2.1 5 o).toInt := by
    unfold pkk
    rw [o2]
    have : Int32.toInt 0 = 0 := rfl
    omega
  rw [p1, p2]
  have hb1 := (hv.2.2.2.1 l hl).2.1
  have hb2 := (hv.2.2.2.1 o ho).2.1
  have hl1 := (hv.2.2.2.1 l hl).2.2.2.1
  have hl2 := (hv.2.2.2.1 o ho).2.2.2.1
  have q1 := hb1.1; have q2 := hb1.2; have q3 := hb2.1; have q4 := hb2.2
  have q5 := hl1.1; have q6 := hl1.2; have q10 := hl2.1; have q11 := hl2.2
  have ev : (nI (s - b + max b x)).toInt = (s : Int) - b + max b x := by rw [tiN (by omega)]; omega
  simp only [decide_eq_true_eq]
  by_cases c1 : nI (s - b + max b x) = sm T o
  · rw [if_pos c1]
    have e := congrArg Int32.toInt c1
    rw [ev] at e
    by_cases c2 : (T.2.1 4 l).toInt * 100 + (T.2.1 5 l).toInt < (T.2.1 4 o).toInt * 100 + (T.2.1 5 o).toInt
    · have c3 : 0 - ((s : Int) - b + max b x) * 100000 + (T.2.1 4 l).toInt * 100 + (T.2.1 5 l).toInt < 0 - (sm T o).toInt * 100000 + (T.2.1 4 o).toInt * 100 + (T.2.1 5 o).toInt := by omega
      rw [if_pos c2, if_pos c3]; rfl
    · have c3 : ¬ 0 - ((s : Int) - b + max b x) * 100000 + (T.2.1 4 l).toInt * 100 + (T.2.1 5 l).toInt < 0 - (sm T o).toInt * 100000 + (T.2.1 4 o).toInt * 100 + (T.2.1 5 o).toInt := by omega
      rw [if_neg c2, if_neg c3]; rfl
  · rw [if_neg c1]
    rw [eq32, ev] at c1
    by_cases c2 : nI (s - b + max b x) ≤ sm T o
    · rw [if_pos c2]
      rw [le32, ev] at c2
      have c3 : ¬ 0 - ((s : Int) - b + max b x) * 100000 + (T.2.1 4 l).toInt * 100 + (T.2.1 5 l).toInt < 0 - (sm T o).toInt * 100000 + (T.2.1 4 o).toInt * 100 + (T.2.1 5 o).toInt := by omega
      rw [if_neg c3]
    · rw [if_neg c2]
      rw [le32, ev] at c2
      have c3 : 0 - ((s : Int) - b + max b x) * 100000 + (T.2.1 4 l).toInt * 100 + (T.2.1 5 l).toInt < 0 - (sm T o).toInt * 100000 + (T.2.1 4 o).toInt * 100 + (T.2.1 5 o).toInt := by omega
      rw [if_pos c3]
theorem needs8_L {k l o t : Nat} {S T : St} (hv : VR 30 25 k S T) (hl : l < k) (ho : o < k) (ht : t < 3) (et : T.2.1 11 0 = nI t) (o1 : mt T l 6 = 0) (o2 : mt T o 6 = 0) : ∀ d x n, x + d = 41 → d + 1 ≤ n → m_X8_needs_L61 n S (nI l) (nI o) (nI x) = some (fsr (nPr T l t o) x d) := by
  intro d
  induction d with
  | zero =>
    intro x n hx hn
    obtain ⟨m, rfl⟩ : ∃ m, n = m + 1 := ⟨n - 1, by omega⟩
    unfold m_X8_needs_L61
    rw [lit32 40, if_pos (by rw [ltN (by omega) (by omega)]; omega)]
    rfl
  | succ d ih =>
    intro x n hx hn
    obtain ⟨m, rfl⟩ : ∃ m, n = m + 1 := ⟨n - 1, by omega⟩
    unfold m_X8_needs_L61
    rw [lit32 40, if_neg (by rw [ltN (by omega) (by omega)]; omega), would8 hv hl ho ht et o1 o2 (by omega), s1, ih (x + 1) m (by omega) (by omega)]
    simp only [Option.bind_some]
    show _ = some (if nPr T l t o x = true then nI x else _)
    by_cases c : nPr T l t o x = true
    · rw [if_pos c, if_pos c]; rfl
    · rw [if_neg c, if_neg c]; rfl
theorem needs9_L {k l o t : Nat} {S T : St} (hv : VR 30 25 k S T) (hl : l < k) (ho : o < k) (hlo : l ≠ o) (ht : t < 3) (h0 : mt T l 0 ≠ 0) {L0 : Nat} (hL0 : 1 ≤ L0) (hL : lst T l = nI L0) (hL4 : L0 ≤ 41) : ∀ d x n T', x + 1 = L0 + d → x ≤ 40 → d + 9 ≤ n → Dc (3 + 10 * l + (7 + t)) T T' →
    ∃ T2, Dc (3 + 10 * l + (7 + t)) T T2 ∧ m_X9_needs_L76 n T' (nI l) (nI o) (nI (7 + t)) (mt T l (7 + t)) (fsr (nPr T l t o) (x + 1) (40 - x)) (nI x) = some (T2, fsr (nPr T l t o) L0 (41 - L0)) := by
  have hk := hv.1
  obtain ⟨hr1, hr2, hr3⟩ := hv.rt
  obtain ⟨b, hb, eb⟩ := (best_rg hv hl ht).nat (n := 40)
  have hoth : ∀ T', Dc (3 + 10 * l + (7 + t)) T T' → ∀ j w, w < 10 → (j ≠ l ∨ w ≠ 7 + t) → mt T' j w = mt T j w := fun T' h j w hw hj => h.2.2 11 (3 + 10 * j + w) (by omega)
  have hrt : ∀ T', Dc (3 + 10 * l + (7 + t)) T T' → RT k T' := fun T' h => by
    refine ⟨hk, by rw [h.1]; exact hr2, fun j hj => ?_⟩
    obtain ⟨p1, p2, p3⟩ := hr3 j hj
    rw [h.2.2 5 j (by omega), h.2.2 11 0 (by omega), hoth T' h j 6 (by omega) (by omega), hoth T' h j 0 (by omega) (by omega)]
    exact ⟨p1, p2, p3⟩
  have hlst : ∀ T', Dc (3 + 10 * l + (7 + t)) T T' → lst T' l = nI L0 := fun T' h => by
    rw [← hL]
    unfold lst its
    rw [hoth T' h l 0 (by omega) (by omega), hoth T' h l 1 (by omega) (by omega), hoth T' h l 2 (by omega) (by omega), hoth T' h l 3 (by omega) (by omega), h.2.2 11 2 (by omega)]
  have hpk : ∀ T', Dc (3 + 10 * l + (7 + t)) T T' → ∀ v, pkk (sA T' 11 (3 + 10 * l + (7 + t)) v) l = pkk (sA T 11 (3 + 10 * l + (7 + t)) v) l := fun T' h v => by
    have hm : ∀ w, w < 10 → mt (sA T' 11 (3 + 10 * l + (7 + t)) v) l w = mt (sA T 11 (3 + 10 * l + (7 + t)) v) l w := fun w hw => by
      rw [mt_set (by omega) hw, mt_set (by omega) hw]
      by_cases c : l = l ∧ w = 7 + t
      · rw [if_pos c, if_pos c]
      · rw [if_neg c, if_neg c]; exact hoth T' h l w hw (by omega)
    unfold pkk sm
    rw [hm 6 (by omega), hm 7 (by omega), hm 8 (by omega), hm 9 (by omega), sA_row (by omega), sA_row (by omega), sA_row (by omega), sA_row (by omega), h.2.2 4 l (by omega), h.2.2 5 l (by omega)]
  have hpo : ∀ T', Dc (3 + 10 * l + (7 + t)) T T' → ∀ j, j ≠ l → pkk T' j = pkk T j := fun T' h j hj => by
    unfold pkk sm
    rw [hoth T' h j 6 (by omega) (by omega), hoth T' h j 7 (by omega) (by omega), hoth T' h j 8 (by omega) (by omega), hoth T' h j 9 (by omega) (by omega), h.2.2 4 j (by omega), h.2.2 5 j (by omega)]
  have hpt : ∀ T', Dc (3 + 10 * l + (7 + t)) T T' → Rg (mt T' l (7 + t)) 0 40 → PT k T' := fun T' h h40 => by
    refine ⟨hk, by rw [h.1]; exact hr2, fun j hj => ?_⟩
    obtain ⟨p1, p2, p3, p4⟩ := hv.pt.2.2 j hj
    rw [h.2.2 5 j (by omega), h.2.2 4 j (by omega), hoth T' h j 6 (by omega) (by omega)]
    refine ⟨p1, ?_, p3, p4⟩
    have hbb : ∀ u, u < 3 → Rg (mt T' j (7 + u)) 0 40 := fun u hu => by
      by_cases c : j = l ∧ u = t
      · rw [c.1, c.2]; exact h40
      · rw [hoth T' h j (7 + u) (by omega) (by omega)]; exact best_rg hv hj hu
    unfold sm
    split
    · exact ⟨by decide, by decide⟩
    · exact sm_rg (hbb 0 (by omega)) (hbb 1 (by omega)) (hbb 2 (by omega))
  intro d
  induction d with
  | zero =>
    intro x n T' hx hx4 hn hD
    obtain ⟨m, rfl⟩ : ∃ m, n = m + 1 := ⟨n - 1, by omega⟩
    refine ⟨T', hD, ?_⟩
    unfold m_X9_needs_L76
    rw [least9 (hrt T' hD) hl, hlst T' hD]
    simp only [Option.bind_some]
    rw [if_pos (by rw [ltN (by omega) (by omega)]; omega), show x + 1 = L0 by omega, show 40 - x = 41 - L0 by omega]
  | succ d ih =>
    intro x n T' hx hx4 hn hD
    obtain ⟨m, rfl⟩ : ∃ m, n = m + 1 := ⟨n - 1, by omega⟩
    unfold m_X9_needs_L76
    rw [least9 (hrt T' hD) hl, hlst T' hD]
    simp only [Option.bind_some]
    rw [if_neg (by rw [ltN (by omega) (by omega)]; omega), sets_eq _ (by omega) (by omega)]
    simp only [Option.bind_some]
    have hD2 := hD.set (mx (mt T l (7 + t)) (nI x))
    have h40 : Rg (mt (sA T' 11 (3 + 10 * l + (7 + t)) (mx (mt T l (7 + t)) (nI x))) l (7 + t)) 0 40 := by
      rw [mt_set (by omega) (by omega), if_pos ⟨rfl, rfl⟩, eb, mx_nat (by omega) (by omega)]
      exact Rg.of (n := 40) (by omega) (by omega)
    rw [ahead9 (hpt _ hD2 h40) hl ho, hpo _ hD2 o (fun q => hlo q.symm), hpk T' hD]
    simp only [Option.bind_some]
    obtain ⟨y, rfl⟩ : ∃ y, x = y + 1 := ⟨x - 1, by omega⟩
    rw [pk_m1]
    obtain ⟨T2, g1, g2⟩ := ih y m _ (by omega) (by omega) (by omega) hD2
    refine ⟨T2, g1, ?_⟩
    rw [show 40 - y = (40 - (y + 1)) + 1 by omega] at g2
    rw [← g2]
    show _ = m_X9_needs_L76 m _ (nI l) (nI o) (nI (7 + t)) (mt T l (7 + t)) (if nPr T l t o (y + 1) = true then nI (y + 1) else _) (nI y)
    have hdec : nPr T l t o (y + 1) = decide (pkk (sA T 11 (3 + 10 * l + (7 + t)) (mx (mt T l (7 + t)) (nI (y + 1)))) l < pkk T o) := rfl
    rw [hdec]
    simp only [decide_eq_true_eq]
    by_cases c : pkk (sA T 11 (3 + 10 * l + (7 + t)) (mx (mt T l (7 + t)) (nI (y + 1)))) l < pkk T o
    · rw [if_pos c, if_pos c]; rfl
    · rw [if_neg c, if_neg c]; rfl
/-- needs -/
theorem hb_16 (n : Nat) (hn : 100 ≤ n) : HB_16 n RelB := by
  intro S oF oP T a1 a2 hR
  obtain ⟨hf, hro, k, hc⟩ := id hR
  have hv := hc.vr.congrT (EqT.thr T 0)
  have hk := hv.1
  unfold m_X8_needs m_X9_needs
  simp only [nmE]
  rcases isL hv a1 with ⟨l, hl, rfl, e1, e2⟩ | ⟨e1, e2⟩
  · rw [e1, e2]
    simp only [Option.bind_some, b10, if_false]
    rcases isL hv a2 with ⟨o, ho, rfl, f1, f2⟩ | ⟨f1, f2⟩
    · rw [f1, f2]
      simp only [Option.bind_some, b10, if_false]
      rw [ifeqN (by omega) (by omega), ifeqN (by omega) (by omega)]
      by_cases clo : l = o
      · rw [if_pos clo, if_pos clo]; exact ⟨-1, _, rfl, rfl, hR.thr 0⟩
      rw [if_neg clo, if_neg clo, ahead8 hv hl ho, ahead9 hv.pt hl ho]
      by_cases ca : pkk (sI T 0 0) l < pkk (sI T 0 0) o
      · rw [if_pos ca]; exact ⟨0, _, rfl, rfl, hR.thr 0⟩
      rw [if_neg ca]
      simp only [Option.bind_some, b00, if_true]
      rw [ckN (by omega) (by omega), clN (by omega), show S.2.1 26 l = mt (sI T 0 0) l 0 from (hv.cell hl).1, least9 hv.rt hl]
      simp only [Option.bind_some]
      by_cases c0 : mt (sI T 0 0) l 0 = 0
      · rw [if_pos c0, show lst (sI T 0 0) l = 0 by unfold lst; rw [if_pos c0]]
        exact ⟨-2, _, rfl, rfl, hR.thr 0⟩
      obtain ⟨L0, hL1, hL2, hL3⟩ := lst_nat hv hl c0
      rw [if_neg c0, least8 hv hl, hL3, if0N (by omega), if_neg (by omega)]
      simp only [Option.bind_some]
      obtain ⟨lift, round, done, g1, g2, g3, _⟩ := hv.2.2.2.2.2.2
      have hlift : lift < 3 := by
        rcases Nat.lt_or_ge lift 3 with c | c
        · exact c
        · exact absurd ((hv.rt.2.2 l hl).2.2 (by rw [g3, show lift = 3 by omega]; rfl)) c0
      have o1 : mt (sI T 0 0) l 6 = 0 := by
        rcases rg01 (hv.own hl).2.2.2.2.2.1 with q | q
        · exact q
        · exact absurd ((hv.rt.2.2 l hl).2.1 q) c0
      have o2 : mt (sI T 0 0) o 6 = 0 := by
        rcases rg01 (hv.own ho).2.2.2.2.2.1 with q | q
        · exact q
        · exfalso
          apply ca
          unfold pkk
          rw [o1, q]
          obtain ⟨a1, a2, a3, a4⟩ := hv.pt.2.2 l hl
          obtain ⟨b1, b2, b3, b4⟩ := hv.pt.2.2 o ho
          have q1 := a2.1; have q2 := a2.2; have q3 := b2.1; have q4 := b2.2
          have q5 := a3.1; have q6 := a3.2; have q7 := b3.1; have q8 := b3.2
          have q9 := a4.1; have q10 := a4.2; have q11 := b4.1; have q12 := b4.2
          have i0 : Int32.toInt 0 = 0 := rfl
          have i1 : Int32.toInt 1 = 1 := rfl
          omega
      rw [needs8_L hv hl ho hlift g3 o1 o2 (41 - L0) L0 n (by omega) (by omega)]
      rw [show (sI T 0 0).2.1 11 ((0 : Int32).toNatClampNeg) = nI lift from g3, show (7 : Int32) + nI lift = nI (7 + lift) by rw [lit32 7, nI_add], of_eq (by omega) (by omega)]
      rw [show ∀ x : Option (Int32 × St), ck 0 63 x = x from fun x => rfl]
      simp only [Option.bind_some]
      obtain ⟨T2, d1, d2⟩ := needs9_L hv hl ho clo hlift c0 hL1 hL3 hL2 (41 - L0) 40 n (sI T 0 0) (by omega) (by omega) (by omega) (Dc.rfl _ _)
      rw [show fsr (nPr (sI T 0 0) l lift o) (40 + 1) (40 - 40) = -3 from rfl, show nI 40 = 40 from rfl] at d2
      rw [d2]
      simp only [Option.bind_some]
      rw [sets_eq _ (by omega) (by omega)]
      obtain ⟨b1, b2, b3⟩ := d1.back
      refine ⟨_, _, rfl, rfl, hf, ?_, k, hc.congr (EqS.rfl S) ((EqT.thr T 0).trans b1)⟩
      obtain ⟨t, ht, r1, r2, r3⟩ := hro
      refine ⟨t, ht, r1, ?_, ?_⟩
      · show (sA T2 11 (3 + 10 * l + (7 + lift)) (mt (sI T 0 0) l (7 + lift))).1 1 = _
        rw [b2]; exact r2
      · intro j hj
        show _ = (sA T2 11 (3 + 10 * l + (7 + lift)) (mt (sI T 0 0) l (7 + lift))).2.2.1 2 j
        rw [b3]; exact r3 j hj
    · rw [f1, f2]
      exact ⟨-1, _, rfl, rfl, hR.thr 0⟩
  · rw [e1, e2]
    exact ⟨-1, _, rfl, rfl, hR.thr 0⟩
/-! signs -/
theorem nat_int32 (x : Int32) : ((x.toBitVec.toNat : Nat) : Int) = x.toInt ∨ ((x.toBitVec.toNat : Nat) : Int) = x.toInt + 4294967296 := by
  have h : x.toInt = x.toBitVec.toInt := rfl
  rw [h, BitVec.toInt_eq_toNat_cond]
  split <;> omega
theorem byteU (v : Int32) (s : Int32) (k : Nat) (hs : ((s.toUInt32 &&& Int32.toUInt32 31).toBitVec % 32).toNat = k) : i2c ((usr v s) &&& 255) = nI (v.toBitVec.toNat / 2 ^ k % 256) := by
  unfold i2c usr
  rw [pk_char, pk_and _ 8 rfl, pk_ushr v s k hs]
  rw [pk_tn (by omega), Nat.mod_eq_of_lt (a := _ % 2 ^ 8) (by omega)]
theorem byteS (v : Int32) (s : Int32) (k : Nat) (hk : k = 0 ∨ k = 8 ∨ k = 16 ∨ k = 24) (hs : (s.toBitVec.smod 32).toNat = k) : (v >>> s) &&& 255 = nI (v.toBitVec.toNat / 2 ^ k % 256) := by
  rw [pk_and _ 8 rfl]
  have h1 := pk_shr v s k hs
  have h2 := nat_int32 (v >>> s)
  have h3 := nat_int32 v
  rw [h1, Int.shiftRight_eq_div_pow] at h2
  congr 1
  generalize (v >>> s).toBitVec.toNat = a at *
  generalize v.toBitVec.toNat = b at *
  generalize v.toInt = c at *
  rcases hk with rfl | rfl | rfl | rfl
  · rw [show (((2 ^ 0 : Nat)) : Int) = 1 from rfl] at h2
    show a % 256 = b / 1 % 256
    omega
  · rw [show (((2 ^ 8 : Nat)) : Int) = 256 from rfl] at h2
    show a % 256 = b / 256 % 256
    omega
  · rw [show (((2 ^ 16 : Nat)) : Int) = 65536 from rfl] at h2
    show a % 256 = b / 65536 % 256
    omega
  · rw [show (((2 ^ 24 : Nat)) : Int) = 16777216 from rfl] at h2
    show a % 256 = b / 16777216 % 256
    omega
