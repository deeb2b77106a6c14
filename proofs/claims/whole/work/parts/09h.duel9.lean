/-! ===== layer B: the duel; the reference ===== -/
def dQ (T : St) (la lb : Nat) : DD := (fun x => odN T la 2 x (nM T la 4), fun x => odN T lb 2 x (nM T lb 4), fun i => if i = 0 then nM T la 7 + nM T la 8 else if i = 1 then nM T lb 7 + nM T lb 8 else if i = 2 then nM T la 9 else if i = 3 then nM T lb 9 else if i = 4 then (if (T.2.1 4 la).toInt * 100 + (T.2.1 5 la).toInt < (T.2.1 4 lb).toInt * 100 + (T.2.1 5 lb).toInt then 1 else 0) else if i = 5 then (if T.2.1 5 lb ≤ T.2.1 5 la then 0 else 1) else if i = 6 then nM T la 0 else nM T lb 0)
theorem dQ_eqT {T T' : St} (h : EqT T T') (la lb : Nat) : dQ T' la lb = dQ T la lb := by
  unfold dQ
  simp only [odN_eqT h, nM_eqT h, h.2.1 4 (by omega) (by omega), h.2.1 5 (by omega) (by omega)]
def FrU (T T' : St) : Prop := T'.1 = T.1 ∧ (∀ a, a ≠ 37 → a ≠ 38 → T'.2.1 a = T.2.1 a) ∧ T'.2.2 = T.2.2
theorem FrU.rfl (T : St) : FrU T T := ⟨Eq.refl _, fun _ _ _ => Eq.refl _, Eq.refl _⟩
theorem FrU.trans {S S' S2 : St} (h : FrU S S') (g : FrU S' S2) : FrU S S2 := ⟨g.1.trans h.1, fun i a b => (g.2.1 i a b).trans (h.2.1 i a b), g.2.2.trans h.2.2⟩
theorem FrU.eqt {T T' : St} (h : FrU T T') : EqT T T' := ⟨⟨by rw [h.1], by rw [h.1], by rw [h.1], by rw [h.1], by rw [h.1]⟩, fun a _ _ => h.2.1 a (by omega) (by omega), h.2.1 11 (by omega) (by omega), h.2.1 15 (by omega) (by omega), h.2.1 17 (by omega) (by omega)⟩
def DF (D : DD) (k la lb : Nat) (S T : St) : Prop := VR 30 25 k S T ∧ la < k ∧ lb < k ∧ la ≠ lb ∧ T.1 35 = nI la ∧ T.1 36 = nI lb ∧ D = dQ T la lb ∧ T.2.1 11 0 = nI 2 ∧ nM T la 0 ≠ 0 ∧ nM T lb 0 ≠ 0
theorem DF.fr {D : DD} {k la lb : Nat} {S T T' : St} (h : DF D k la lb S T) (f : FrU T T') : DF D k la lb S T' := by
  obtain ⟨h1, h2, h3, h4, h5, h6, h7, h8, h9, h10⟩ := h
  refine ⟨h1.congrT f.eqt, h2, h3, h4, by rw [f.1]; exact h5, by rw [f.1]; exact h6, by rw [dQ_eqT f.eqt]; exact h7, by rw [f.2.1 11 (by omega) (by omega)]; exact h8, by rw [nM_eqT f.eqt]; exact h9, by rw [nM_eqT f.eqt]; exact h10⟩
theorem nL_of {T : St} (h : T.2.1 11 0 = nI 2) : nL T = 2 := by unfold nL; rw [h]; rfl
/-- one lifter that waits in the last round -/
theorem duelOwn {ib ab k l : Nat} {S T : St} (hv : VR ib ab k S T) (hl : l < k) (h2 : T.2.1 11 0 = nI 2) (h0 : nM T l 0 ≠ 0) :
    mt T l 0 = nI (nM T l 0) ∧ nM T l 0 ≤ 40 ∧ mt T l 4 = nI (nM T l 4) ∧ nM T l 4 ≤ 3 ∧ mt T l 7 = nI (nM T l 7) ∧ nM T l 7 ≤ 40 ∧ mt T l 8 = nI (nM T l 8) ∧ nM T l 8 ≤ 40 ∧ mt T l 9 = nI (nM T l 9) ∧ nM T l 9 < nM T l 0 := by
  obtain ⟨j1, j2, j3, j4, j5, j6, j7, j8, j9, j10, j11, j12, j13, j14, j15, j16, j17⟩ := now_T hv hl
  rw [nL_of h2] at j17
  obtain ⟨k1, k2, k3, k4, k5, k6, k7⟩ := j17 (by omega) h0
  have k5' : ((nM T l 9 : Nat) : Int) < itsI (T.2.1 11) l := k5
  exact ⟨j5, j6, j9, j10, (j13 0 (by omega)).1, (j13 0 (by omega)).2, (j13 1 (by omega)).1, (j13 1 (by omega)).2, (j13 2 (by omega)).1, by omega⟩
theorem DF.wf {D : DD} {k la lb : Nat} {S T : St} (h : DF D k la lb S T) : DW D := by
  obtain ⟨hv, hla, hlb, hne, h5, h6, rfl, h8, h9, h10⟩ := h
  obtain ⟨a1, a2, a3, a4, a5, a6, a7, a8, a9, a10⟩ := duelOwn hv hla h8 h9
  obtain ⟨b1, b2, b3, b4, b5, b6, b7, b8, b9, b10⟩ := duelOwn hv hlb h8 h10
  refine ⟨fun x hx => ⟨(od_nat hv hla (by omega) hx a4).2, (od_nat hv hlb (by omega) hx b4).2⟩, ?_, ?_, a10, b10, a2, b2, ?_, ?_⟩
  · show nM T la 7 + nM T la 8 ≤ 80; omega
  · show nM T lb 7 + nM T lb 8 ≤ 80; omega
  · show (if (T.2.1 4 la).toInt * 100 + (T.2.1 5 la).toInt < (T.2.1 4 lb).toInt * 100 + (T.2.1 5 lb).toInt then 1 else 0) ≤ 1
    split <;> omega
  · show (if T.2.1 5 lb ≤ T.2.1 5 la then 0 else 1) ≤ 1
    split <;> omega
theorem duelSum {ib ab k l n : Nat} {S T : St} (hv : VR ib ab k S T) (hl : l < k) (h2 : T.2.1 11 0 = nI 2) (hn : 4 ≤ n) : m_X9_sumAhead n T (nI l) = some (nI (nM T l 7 + nM T l 8)) := by
  have hk := hv.1
  obtain ⟨j1, j2, j3, j4, j5, j6, j7, j8, j9, j10, j11, j12, j13, j14, j15, j16, j17⟩ := now_T hv hl
  unfold m_X9_sumAhead
  rw [show m_X9_sumAhead_L4 n T (nI l) 0 0 = _ from sumAhead_L (lift := 2) (by omega) (by omega) h2 j13 2 0 n (by omega) (by omega)]
  show some (nI (0 + nM T l 7 + nM T l 8)) = _
  rw [Nat.zero_add]
theorem ends9d {D : DD} {k la lb n x y : Nat} {S T : St} (h : DF D k la lb S T) (hn : 4 ≤ n) (hx : x ≤ 40) (hy : y ≤ 40) : m_X9_duelEnds n T (nI x) (nI y) = some (nI (eN D x y)) := by
  have hw := h.wf
  obtain ⟨hv, hla, hlb, hne, h5, h6, h7, h8, h9, h10⟩ := h
  have hk := hv.1
  have e0 : D.2.2 0 = nM T la 7 + nM T la 8 := by rw [h7]; rfl
  have e1 : D.2.2 1 = nM T lb 7 + nM T lb 8 := by rw [h7]; rfl
  have e4 : D.2.2 4 = if (T.2.1 4 la).toInt * 100 + (T.2.1 5 la).toInt < (T.2.1 4 lb).toInt * 100 + (T.2.1 5 lb).toInt then 1 else 0 := by rw [h7]; rfl
  have s0 := hw.2.1
  have s1' := hw.2.2.1
  unfold m_X9_duelEnds eN
  rw [if0N (by omega)]
  by_cases c : x = 0
  · rw [if_pos c, if_pos c, c]; rfl
  · rw [if_neg c, if_neg c, if0N (by omega)]
    by_cases c2 : y = 0
    · rw [if_pos c2, if_pos c2, ifle0N (by omega), if_neg (by omega)]; rfl
    · rw [if_neg c2, if_neg c2, h5, h6, duelSum hv hla h8 hn, Option.bind_some, duelSum hv hlb h8 hn, Option.bind_some, ← e0, ← e1, nI_add, nI_add, ifltN (by omega) (by omega), ifeqN (by omega) (by omega)]
      by_cases c3 : D.2.2 1 + y < D.2.2 0 + x
      · rw [if_pos c3, if_pos (Or.inl c3)]; rfl
      · rw [if_neg c3]
        by_cases c4 : D.2.2 0 + x = D.2.2 1 + y
        · rw [if_pos c4, lighter9 (by omega) (by omega) (hv.2.2.2.1 la hla).2.2.2.1 (hv.2.2.2.1 lb hlb).2.2.2.1, Option.bind_some]
          by_cases c5 : (T.2.1 4 la).toInt * 100 + (T.2.1 5 la).toInt < (T.2.1 4 lb).toInt * 100 + (T.2.1 5 lb).toInt
          · rw [if_pos c5] at e4 ⊢
            rw [if_neg (show ¬ (1 : Int32) = 0 by decide), if_pos (Or.inr ⟨c4, e4⟩)]; rfl
          · rw [if_neg c5] at e4 ⊢
            rw [if_pos rfl, if_neg (by omega)]; rfl
        · rw [if_neg c4, if_neg (by omega)]; rfl
theorem called9d {D : DD} {k la lb x y : Nat} {S T : St} (h : DF D k la lb S T) (hx : x ≤ 40) (hy : y ≤ 40) : m_X9_isOneCalled T (nI x) (nI y) = some (if fst D x y = true then 1 else 0) := by
  obtain ⟨hv, hla, hlb, hne, h5, h6, h7, h8, h9, h10⟩ := h
  have hk := hv.1
  have e5 : D.2.2 5 = if T.2.1 5 lb ≤ T.2.1 5 la then 0 else 1 := by rw [h7]; rfl
  unfold m_X9_isOneCalled fst
  rw [ifltN (by omega) (by omega), ifeqN (by omega) (by omega), h5, h6, ckN (by omega) (by omega), ckN (by omega) (by omega), clN (by omega), clN (by omega)]
  by_cases c : x < y
  · rw [if_pos c, if_pos (decide_eq_true (Or.inl c))]
  · rw [if_neg c]
    by_cases c2 : x = y
    · rw [if_pos c2]
      by_cases c3 : T.2.1 5 lb ≤ T.2.1 5 la
      · rw [if_pos c3] at e5 ⊢
        rw [if_neg (fun q => by have := of_decide_eq_true q; omega)]
      · rw [if_neg c3] at e5 ⊢
        rw [if_pos (decide_eq_true (Or.inr ⟨c2, e5⟩))]
    · rw [if_neg c2, if_neg (fun q => by have := of_decide_eq_true q; omega)]
/-! for either of the two: what is its own -/
theorem best1d {k l x : Nat} {S T : St} (hv : VR 30 25 k S T) (hl : l < k) (h2 : T.2.1 11 0 = nI 2) (h0 : nM T l 0 ≠ 0) (hx : nM T l 0 ≤ x) (hx2 : x ≤ 40) : m_X9_duelBest T (nI l) (nI x) 1 = some (nI x) := by
  have hk := hv.1
  obtain ⟨a1, a2, a3, a4, a5, a6, a7, a8, a9, a10⟩ := duelOwn hv hl h2 h0
  unfold m_X9_duelBest
  rw [of9 (by omega), Option.bind_some, if_neg (show ¬ (1 : Int32) = 0 by decide), a9, mx_nat (by omega) (by omega), show max (nM T l 9) x = x by omega]
theorem best0d {k l : Nat} {S T : St} (hv : VR 30 25 k S T) (hl : l < k) (h2 : T.2.1 11 0 = nI 2) (h0 : nM T l 0 ≠ 0) (x : Int32) : m_X9_duelBest T (nI l) x 0 = some (nI (nM T l 9)) := by
  have hk := hv.1
  obtain ⟨a1, a2, a3, a4, a5, a6, a7, a8, a9, a10⟩ := duelOwn hv hl h2 h0
  unfold m_X9_duelBest
  rw [of9 (by omega), Option.bind_some, if_pos rfl, a9]
theorem try9d {k l x u v n : Nat} {S T : St} (hv : VR 30 25 k S T) (hl : l < k) (h2 : T.2.1 11 0 = nI 2) (h0 : nM T l 0 ≠ 0) (hx2 : x ≤ 40) (hu : u ≤ 1000000) (hw : v ≤ 1000000) (hn : 7 ≤ n) : m_X9_duelTry n T (nI l) (nI x) (nI u) (nI v) = some (nI (mixN (odN T l 2 x (nM T l 4)) u v)) := by
  have hk := hv.1
  obtain ⟨a1, a2, a3, a4, a5, a6, a7, a8, a9, a10⟩ := duelOwn hv hl h2 h0
  have ho := od_nat hv hl (show 2 < 3 by omega) hx2 a4
  unfold m_X9_duelTry
  rw [of4 (by omega), Option.bind_some, show m_X9_oddsOf n T (nI l) 2 (nI x) (mt T l 4) = _ from odds9 hv hl (show 2 < 3 by omega) hn (nI x) (mt T l 4), Option.bind_some, a3, ho.1, exp9 _ ho.2 hu hw]
  rfl
theorem lastA9 {D : DD} {k la lb n x v : Nat} {S T : St} (h : DF D k la lb S T) (hn : 7 ≤ n) (hx : D.2.2 6 ≤ x) (hx2 : x ≤ 40) (hy : v ≤ 40) : m_X9_duelLast n T (nI la) (nI x) (nI v) = some (nI (lA D v x)) := by
  have hw := h.wf
  have he := fun x y hx hy => ends9d (n := n) (x := x) (y := y) h (by omega) hx hy
  obtain ⟨hv, hla, hlb, hne, h5, h6, h7, h8, h9, h10⟩ := h
  have hk := hv.1
  have e6 : D.2.2 6 = nM T la 0 := by rw [h7]; rfl
  have e2 : D.2.2 2 = nM T la 9 := by rw [h7]; rfl
  have eo : D.1 x = odN T la 2 x (nM T la 4) := by rw [h7]; rfl
  have w := hw.2.2.2
  unfold m_X9_duelLast lA
  rw [best1d hv hla h8 h9 (by omega) hx2, Option.bind_some, best0d hv hla h8 h9, Option.bind_some, h5, if_pos rfl, he x v hx2 hy, Option.bind_some, ← e2, he _ v (by omega) hy, Option.bind_some, try9d hv hla h8 h9 hx2 (eN_le _ _ _) (eN_le _ _ _) hn, eo]
  rfl
theorem lastB9 {D : DD} {k la lb n x v : Nat} {S T : St} (h : DF D k la lb S T) (hn : 7 ≤ n) (hx : D.2.2 7 ≤ x) (hx2 : x ≤ 40) (hy : v ≤ 40) : m_X9_duelLast n T (nI lb) (nI x) (nI v) = some (nI (lB D v x)) := by
  have hw := h.wf
  have he := fun x y hx hy => ends9d (n := n) (x := x) (y := y) h (by omega) hx hy
  obtain ⟨hv, hla, hlb, hne, h5, h6, h7, h8, h9, h10⟩ := h
  have hk := hv.1
  have e6 : D.2.2 7 = nM T lb 0 := by rw [h7]; rfl
  have e2 : D.2.2 3 = nM T lb 9 := by rw [h7]; rfl
  have eo : D.2.1 x = odN T lb 2 x (nM T lb 4) := by rw [h7]; rfl
  have w := hw.2.2.2
  unfold m_X9_duelLast lB
  rw [best1d hv hlb h8 h10 (by omega) hx2, Option.bind_some, best0d hv hlb h8 h10, Option.bind_some, h5, if_neg (show ¬ nI lb = nI la by rw [eqN (by omega) (by omega)]; omega), he v x hy hx2, Option.bind_some, ← e2, he v _ hy (by omega), Option.bind_some, try9d hv hlb h8 h10 hx2 (eN_le _ _ _) (eN_le _ _ _) hn, eo]
  rfl
theorem better9 (T : St) (g : Bool) {p q : Nat} (hp : p ≤ 1000000) (hq : q ≤ 1000000) : m_X9_isBetter T (if g = true then 1 else 0) (nI p) (nI q) = some (if btr g p q = true then 1 else 0) := by
  unfold m_X9_isBetter btr
  by_cases c : g = true
  · rw [if_pos c, if_pos c, if_neg (show ¬ (1 : Int32) = 0 by decide), ifleN (by omega) (by omega)]
    by_cases c2 : p ≤ q
    · rw [if_pos c2, if_neg (fun z => by have := of_decide_eq_true z; omega)]
    · rw [if_neg c2, if_pos (decide_eq_true (by omega))]
  · rw [if_neg c, if_neg c, if_pos rfl, ifleN (by omega) (by omega)]
    by_cases c2 : q ≤ p
    · rw [if_pos c2, if_neg (fun z => by have := of_decide_eq_true z; omega)]
    · rw [if_neg c2, if_pos (decide_eq_true (by omega))]
theorem bo_btr (g : Bool) (p q : Nat) : bo g q p = if btr g p q = true then p else q := by
  unfold bo btr
  by_cases c : g = true
  · rw [if_pos c, if_pos c]
    by_cases c2 : q < p
    · rw [if_pos (decide_eq_true c2)]; omega
    · rw [if_neg (fun z => c2 (of_decide_eq_true z))]; omega
  · rw [if_neg c, if_neg c]
    by_cases c2 : p < q
    · rw [if_pos (decide_eq_true c2)]; omega
    · rw [if_neg (fun z => c2 (of_decide_eq_true z))]; omega
/-- the last one's loop, for either -/
theorem chooses_L {l c u : Nat} {g : Bool} {f : Nat → Nat} {T : St} {x0 : Nat} (hc : c ≤ 2) (hg : (if nI l = T.1 35 then (some 1) else (some 0) : Option Int32) = some (if g = true then 1 else 0)) (hf : ∀ n x, 7 ≤ n → x0 ≤ x → x ≤ 40 → m_X9_duelLast n T (nI l) (nI x) (nI u) = some (nI (f x)) ∧ f x ≤ 1000000) :
    ∀ d x n so, x + d = 41 → d + 8 ≤ n → x0 ≤ x → so ≤ 1000000 → m_X9_duelChoosesLast_L15 n T (nI l) (nI c) (nI u) (nI so) (nI x) = some (nI (if c = 0 then so else xf g f d x so)) := by
  intro d
  induction d with
  | zero =>
    intro x n so hx hn h0 hso
    obtain ⟨m, rfl⟩ : ∃ m, n = m + 1 := ⟨n - 1, by omega⟩
    unfold m_X9_duelChoosesLast_L15
    rw [lit32 40, if_pos (show nI 40 < nI x by rw [ltN (by omega) (by omega)]; omega)]
    show _ = some (nI (if c = 0 then so else so))
    split <;> rfl
  | succ d ih =>
    intro x n so hx hn h0 hso
    obtain ⟨m, rfl⟩ : ∃ m, n = m + 1 := ⟨n - 1, by omega⟩
    unfold m_X9_duelChoosesLast_L15
    rw [lit32 40, if_neg (show ¬ nI 40 < nI x by rw [ltN (by omega) (by omega)]; omega), ifle0N (by omega)]
    by_cases hc0 : c = 0
    · rw [if_pos (show c ≤ 0 by omega), if_pos hc0]
    · obtain ⟨q1, q2⟩ := hf m x (by omega) h0 (by omega)
      rw [if_neg (show ¬ c ≤ 0 by omega), if_neg hc0, q1, Option.bind_some, hg, Option.bind_some, better9 T g q2 hso, Option.bind_some, s1]
      have i1 := ih (x + 1) m (f x) (by omega) (by omega) (by omega) q2
      have i2 := ih (x + 1) m so (by omega) (by omega) (by omega) hso
      rw [if_neg hc0] at i1 i2
      show _ = some (nI (xf g f d (x + 1) (bo g so (f x))))
      rw [bo_btr]
      by_cases cb : btr g (f x) so = true
      · rw [if_pos cb, if_pos cb, if_neg (show ¬ (1 : Int32) = 0 by decide)]; exact i1
      · rw [if_neg cb, if_neg cb, if_pos rfl]; exact i2
theorem choosesA9 {D : DD} {k la lb n x v c : Nat} {S T : St} (h : DF D k la lb S T) (hn : 60 ≤ n) (hc : c ≤ 2) (hx : D.2.2 6 ≤ x) (hx2 : x ≤ 40) (hy : v ≤ 40) : m_X9_duelChoosesLast n T (nI la) (nI x) (nI c) (nI v) = some (nI (cA D c v x)) := by
  have hw := h.wf
  unfold m_X9_duelChoosesLast cA
  rw [lastA9 h (by omega) hx hx2 hy, Option.bind_some, s1, chooses_L (g := true) (f := lA D v) (x0 := D.2.2 6) hc (by rw [h.2.2.2.2.1, if_pos rfl]; rfl) (fun n x q1 q2 q3 => ⟨lastA9 h q1 q2 q3 hy, lA_le hw q3⟩) (40 - x) (x + 1) n _ (by omega) (by omega) (by omega) (lA_le hw hx2)]
  rfl
theorem choosesB9 {D : DD} {k la lb n x v c : Nat} {S T : St} (h : DF D k la lb S T) (hn : 60 ≤ n) (hc : c ≤ 2) (hx : D.2.2 7 ≤ x) (hx2 : x ≤ 40) (hy : v ≤ 40) : m_X9_duelChoosesLast n T (nI lb) (nI x) (nI c) (nI v) = some (nI (cB D c v x)) := by
  have hw := h.wf
  have hk := h.1.1
  have hla := h.2.1
  have hlb := h.2.2.1
  have hne := h.2.2.2.1
  unfold m_X9_duelChoosesLast cB
  rw [lastB9 h (by omega) hx hx2 hy, Option.bind_some, s1, chooses_L (g := false) (f := lB D v) (x0 := D.2.2 7) hc (by rw [h.2.2.2.2.1, if_neg (show ¬ nI lb = nI la by rw [eqN (by omega) (by omega)]; omega)]; rfl) (fun n x q1 q2 q3 => ⟨lastB9 h q1 q2 q3 hy, lB_le hw q3⟩) (40 - x) (x + 1) n _ (by omega) (by omega) (by omega) (lB_le hw hx2)]
  rfl
/-! cells -/
def CellD (D : DD) (T : St) (c d a b : Nat) : Prop := T.2.1 37 (cl c d a b) = nI (dV D c d a b) ∧ T.2.1 38 (cl c d a b) = nI (dC D c d a b)
def LaidD (D : DD) (T : St) (c d : Nat) : Prop := ∀ a b, D.2.2 6 ≤ a → a ≤ 40 → D.2.2 7 ≤ b → b ≤ 40 → CellD D T c d a b
theorem LaidD.keep {D : DD} {T T' : St} {c d : Nat} (h : LaidD D T c d) (e : ∀ y, 1681 * (3 * c + d) ≤ y → y < 1681 * (3 * c + d) + 1681 → T'.2.1 37 y = T.2.1 37 y ∧ T'.2.1 38 y = T.2.1 38 y) : LaidD D T' c d := by
  intro a b h1 h2 h3 h4
  obtain ⟨q1, q2⟩ := h a b h1 h2 h3 h4
  obtain ⟨e1, e2⟩ := e (cl c d a b) (by unfold cl; omega) (by unfold cl; omega)
  exact ⟨e1.trans q1, e2.trans q2⟩
theorem cell9d (T : St) (c d a b : Nat) : m_X9_duelCell T (nI a) (nI b) (nI c) (nI d) = some (nI (cl c d a b)) := by
  unfold m_X9_duelCell cl
  rw [lit32 41, lit32 3, pk_mul, nI_add, pk_mul, nI_add, pk_mul, nI_add]
  congr 2
  omega
