/-! ===== layer B: asks, slot, needs, sign ===== -/
theorem mt_set {T : St} {l w l' w' : Nat} (hw : w < 10) (hw' : w' < 10) (v : Int32) : mt (sA T 11 (3 + 10 * l + w) v) l' w' = if l' = l ∧ w' = w then v else mt T l' w' := by
  show (sA T 11 (3 + 10 * l + w) v).2.1 11 (3 + 10 * l' + w') = _
  rw [sA_21, if_pos rfl]
  by_cases c : l' = l ∧ w' = w
  · rw [if_pos c, if_pos (by omega)]
  · rw [if_neg c, if_neg (by omega)]
theorem sA_row {S : St} {a i x : Nat} {v : Int32} (h : x ≠ a) : (sA S a i v).2.1 x = S.2.1 x := if_neg h
theorem its_int {T : St} {l : Nat} (h1 : Rg (mt T l 2) 0 40) (h2 : Rg (mt T l 3) 0 1) : (its T l).toInt = itsI (T.2.1 11) l := by
  unfold its itsI
  obtain ⟨a, ha, ea⟩ := h1.nat (n := 40)
  obtain ⟨b, hb, eb⟩ := h2.nat (n := 1)
  have ea' : T.2.1 11 (3 + 10 * l + 2) = nI a := ea
  have eb' : T.2.1 11 (3 + 10 * l + 3) = nI b := eb
  rw [ea, eb, ea', eb']
  by_cases c : nI a = 0
  · rw [if_pos c, if_pos c]; rfl
  · rw [if_neg c, if_neg c, nI_add, tiN (by omega), tiN (by omega), tiN (by omega)]; omega
theorem mx_int (a b : Int32) : (mx a b).toInt = max a.toInt b.toInt := by
  unfold mx
  by_cases c : a < b
  · rw [if_pos c]; rw [lt32] at c; omega
  · rw [if_neg c]; rw [lt32] at c; omega
theorem wt_ask {T : St} {l : Nat} (h : wt T l = true) : ¬ mt T l 0 ≤ 0 ∧ mt T l 1 = 0 := by
  unfold wt at h
  simpa only [decide_eq_true_eq] using h
theorem wt_ne {T : St} {l : Nat} (h : wt T l = true) : mt T l 0 ≠ 0 := fun q => (wt_ask h).1 (by rw [q]; decide)
/-- asks -/
theorem hb_11 (n : Nat) : HB_11 n RelB := by
  intro S oF oP T a1 a2 hR
  obtain ⟨hf, hro, k, hc⟩ := id hR
  have hv := hc.vr.congrT (EqT.thr T 0)
  have hk := hv.1
  unfold m_X8_asks m_X9_asks
  simp only [nmE]
  rcases isL hv a1 with ⟨l, hl, rfl, e1, e2⟩ | ⟨e1, e2⟩
  · rw [e1, e2]
    simp only [Option.bind_some, b10, if_false]
    rcases isX S (sI T 0 0) a2 with ⟨x, hx1, hx2, rfl, g1, g2⟩ | ⟨g1, g2⟩
    · rw [g1, g2]
      simp only [Option.bind_some, b10, if_false]
      rw [hc.vr.waits hl, still_eq hv.rt hl, show wt (sI T 0 0) l = wt T l from rfl]
      by_cases cw : wt T l = true
      · simp only [cw, if_true, Option.bind_some, b10, if_false]
        obtain ⟨c1, c2, c3, c4, c5, c6, c7⟩ := hc.vr.cell hl
        obtain ⟨o0, o2, o3, o4, o5, o6, _, _⟩ := hc.vr.own hl
        obtain ⟨ch, hch, ech⟩ := o5.nat (n := 2)
        simp only [ckN (show l < 6 by omega) (show 6 < 2147483648 by omega), clN (show l < 2147483648 by omega)]
        rw [of5 (by omega), show mt (sI T 0 0) l 5 = nI ch from ech, show S.2.1 28 l = nI ch from c3.trans ech]
        simp only [Option.bind_some]
        by_cases cc : ch = 0
        · subst cc
          exact ⟨-3, _, _, rfl, rfl, hR.thr 0⟩
        · rw [if_pos (show (0 : Int32) < nI ch by rw [show (0 : Int32) = nI 0 from rfl, ltN (by omega) (by omega)]; omega), if0N (by omega), if_neg cc, least8 hc.vr hl, least9 hv.rt hl, of0 (by omega), show lst (sI T 0 0) l = lst T l from rfl, show mt (sI T 0 0) l 0 = mt T l 0 from rfl, show S.2.1 26 l = mt T l 0 from c1]
          simp only [Option.bind_some]
          by_cases cl : nI x < lst T l
          · rw [if_pos cl, if_pos cl]; exact ⟨-4, _, _, rfl, rfl, hR.thr 0⟩
          rw [if_neg cl, if_neg cl]
          by_cases cx : nI x = mt T l 0
          · rw [if_pos cx, if_pos cx]; exact ⟨-4, _, _, rfl, rfl, hR.thr 0⟩
          rw [if_neg cx, if_neg cx]
          rw [sets0 (nI x) (by omega)]
          simp only [Option.bind_some]
          rw [of5 (by omega), mt_set (by omega) (by omega), if_neg (by omega), show mt (sI T 0 0) l 5 = nI ch from ech]
          simp only [Option.bind_some]
          rw [sets5 _ (by omega)]
          simp only [Option.bind_some]
          rw [of5 (by omega), mt_set (by omega) (by omega), if_pos ⟨rfl, rfl⟩]
          have es : (sA S 26 l (nI x)).2.1 28 l = nI ch := by rw [sA_row (by omega)]; exact c3.trans ech
          rw [es, lit32 1, subN (by omega)]
          have t0 : ∀ i, i < 3 → (sA (sA (sI T 0 0) 11 (3 + 10 * l + 0) (nI x)) 11 (3 + 10 * l + 5) (nI (ch - 1))).2.1 11 i = T.2.1 11 i := fun i hi => by
            rw [sA_21, if_pos rfl, if_neg (by omega), sA_21, if_pos rfl, if_neg (by omega)]; rfl
          refine ⟨nI (ch - 1), sA (sA S 26 l (nI x)) 28 l (nI (ch - 1)), sA (sA (sI T 0 0) 11 (3 + 10 * l + 0) (nI x)) 11 (3 + 10 * l + 5) (nI (ch - 1)), ?_, rfl, hf, hro, k, ?_⟩
          · rw [sA_21, if_pos rfl, if_pos rfl]
          obtain ⟨_, h3, h10, hta, hli, hlo, hme, hmi, hlg⟩ := hc
          refine ⟨hk, h3, h10, hta.congr rfl (by rw [sA_row (by omega), sA_row (by omega)]) rfl rfl, fun j hj => (hli j hj).congr rfl rfl (by rw [sA_row (by omega), sA_row (by omega)]) (by rw [sA_row (by omega), sA_row (by omega)]) (fun a h1 h2 => by rw [sA_row (by omega), sA_row (by omega)]; rfl), hlo, ?_, ?_, ?_⟩
          · obtain ⟨m0, m1, m2, m3, m4, m5, m6, m7⟩ := hme
            refine ⟨m0, m1, m2.trans (t0 0 (by omega)).symm, m3.trans (t0 1 (by omega)).symm, m4.trans (t0 2 (by omega)).symm, m5, m6, fun j hj => ?_⟩
            obtain ⟨d1, d2, d3, d4, d5, d6, d7⟩ := m7 j hj
            have m28 : ∀ j, (sA (sA S 26 l (nI x)) 28 l (nI (ch - 1))).2.1 28 j = if j = l then nI (ch - 1) else S.2.1 28 j := fun j => by
              rw [sA_21, if_pos rfl, sA_row (by omega)]
            have m26 : ∀ j, (sA (sA S 26 l (nI x)) 28 l (nI (ch - 1))).2.1 26 j = if j = l then nI x else S.2.1 26 j := fun j => by
              rw [sA_row (by omega), sA_21, if_pos rfl]
            have mo : ∀ a, a ≠ 26 → a ≠ 28 → (sA (sA S 26 l (nI x)) 28 l (nI (ch - 1))).2.1 a = S.2.1 a := fun a h1 h2 => by
              rw [sA_row h2, sA_row h1]
            have tm : ∀ w, w < 10 → mt (sA (sA (sI T 0 0) 11 (3 + 10 * l + 0) (nI x)) 11 (3 + 10 * l + 5) (nI (ch - 1))) j w = if j = l ∧ w = 5 then nI (ch - 1) else if j = l ∧ w = 0 then nI x else mt T j w := fun w hw => by
              rw [mt_set (by omega) hw, mt_set (by omega) hw]; rfl
            have tmo : ∀ w, w < 10 → w ≠ 0 → w ≠ 5 → mt (sA (sA (sI T 0 0) 11 (3 + 10 * l + 0) (nI x)) 11 (3 + 10 * l + 5) (nI (ch - 1))) j w = mt T j w := fun w hw h0 h5 => by
              rw [tm w hw, if_neg (by omega), if_neg (by omega)]
            refine ⟨?_, ?_, ?_, ?_, ?_, ?_, ?_⟩
            · rw [show 25 + 1 = 26 from rfl, m26, tm 0 (by omega)]
              by_cases cj : j = l
              · rw [if_pos cj, if_neg (by omega), if_pos ⟨cj, rfl⟩]
              · rw [if_neg cj, if_neg (show ¬ (j = l ∧ 0 = 5) by omega), if_neg (show ¬ (j = l ∧ 0 = 0) by omega)]; exact d1
            · rw [mo _ (by omega) (by omega), tmo 1 (by omega) (by omega) (by omega)]; exact d2
            · rw [show 25 + 3 = 28 from rfl, m28, tm 5 (by omega)]
              by_cases cj : j = l
              · rw [if_pos cj, if_pos ⟨cj, rfl⟩]
              · rw [if_neg cj, if_neg (show ¬ (j = l ∧ 5 = 5) by omega), if_neg (show ¬ (j = l ∧ 5 = 0) by omega)]; exact d3
            · rw [mo _ (by omega) (by omega), tmo 6 (by omega) (by omega) (by omega)]; exact d4
            · rw [mo _ (by omega) (by omega), tmo 4 (by omega) (by omega) (by omega)]; exact d5
            · rw [mo _ (by omega) (by omega), tmo 2 (by omega) (by omega) (by omega), tmo 3 (by omega) (by omega) (by omega)]; exact d6
            · intro t ht
              rw [mo _ (by omega) (by omega), tmo (7 + t) (by omega) (by omega) (by omega)]; exact d7 t ht
          · obtain ⟨lift, round, done, p1, p2, p3, p4, p5, p6, p7, p8, p9, p10, p11, p12, p13, ⟨pf1, pf2⟩, p15⟩ := hmi
            have tm : ∀ j w, w < 10 → (sA (sA (sI T 0 0) 11 (3 + 10 * l + 0) (nI x)) 11 (3 + 10 * l + 5) (nI (ch - 1))).2.1 11 (3 + 10 * j + w) = if j = l ∧ w = 5 then nI (ch - 1) else if j = l ∧ w = 0 then nI x else T.2.1 11 (3 + 10 * j + w) := fun j w hw => by
              show mt (sA (sA (sI T 0 0) 11 (3 + 10 * l + 0) (nI x)) 11 (3 + 10 * l + 5) (nI (ch - 1))) j w = _
              rw [mt_set (by omega) hw, mt_set (by omega) hw]; rfl
            refine ⟨lift, round, done, p1, p2, (t0 0 (by omega)).trans p3, (t0 1 (by omega)).trans p4, by rw [t0 2 (by omega)]; exact p5, by rw [t0 2 (by omega)]; exact p6, p7, p8, p9, p10, p11, p12, p13, ⟨fun j hj => ?_, ?_⟩, fun j hj => ?_⟩
            · rw [tm j 1 (by omega), if_neg (by omega), if_neg (by omega)]; exact pf1 j hj
            · rw [← pf2]
              apply cntR_congr
              intro j _ _
              have q1 := tm j 1 (by omega)
              rw [if_neg (by omega), if_neg (by omega)] at q1
              rw [q1]
            · by_cases cj : j = l
              · subst cj
                have ho := p15 j hj
                have hlift : lift < 3 := by
                  rcases Nat.lt_or_ge lift 3 with q | q
                  · exact q
                  · exact absurd (ho.2.2.2.2.2.2.2.2.1 (by omega)).1 (wt_ne cw)
                obtain ⟨h0, h2, h3, h4, h5, h6, h7, h8, h9, h10, h11, h12⟩ := ho
                obtain ⟨k1, k2, k3, k4, k5, k6, k7⟩ := h12 hlift (wt_ne cw)
                have et : ∀ t, t < 3 → (sA (sA (sI T 0 0) 11 (3 + 10 * j + 0) (nI x)) 11 (3 + 10 * j + 5) (nI (ch - 1))).2.1 11 (3 + 10 * j + 7 + t) = T.2.1 11 (3 + 10 * j + 7 + t) := fun t ht => by
                  rw [Nat.add_assoc (3 + 10 * j), tm j (7 + t) (by omega), if_neg (by omega), if_neg (by omega)]
                have ei : itsI ((sA (sA (sI T 0 0) 11 (3 + 10 * j + 0) (nI x)) 11 (3 + 10 * j + 5) (nI (ch - 1))).2.1 11) j = itsI (T.2.1 11) j := by
                  unfold itsI
                  have q2 := tm j 2 (by omega)
                  have q3 := tm j 3 (by omega)
                  rw [if_neg (by omega), if_neg (by omega)] at q2 q3
                  rw [q2, q3]
                unfold OwnI
                rw [tm j 0 (by omega), tm j 1 (by omega), tm j 2 (by omega), tm j 3 (by omega), tm j 4 (by omega), tm j 5 (by omega), tm j 6 (by omega)]
                rw [if_neg (show ¬ (j = j ∧ 0 = 5) by omega), if_pos (show j = j ∧ 0 = 0 from ⟨rfl, rfl⟩), if_neg (show ¬ (j = j ∧ 1 = 5) by omega), if_neg (show ¬ (j = j ∧ 1 = 0) by omega), if_neg (show ¬ (j = j ∧ 2 = 5) by omega), if_neg (show ¬ (j = j ∧ 2 = 0) by omega), if_neg (show ¬ (j = j ∧ 3 = 5) by omega), if_neg (show ¬ (j = j ∧ 3 = 0) by omega), if_neg (show ¬ (j = j ∧ 4 = 5) by omega), if_neg (show ¬ (j = j ∧ 4 = 0) by omega), if_pos (show j = j ∧ 5 = 5 from ⟨rfl, rfl⟩), if_neg (show ¬ (j = j ∧ 6 = 5) by omega), if_neg (show ¬ (j = j ∧ 6 = 0) by omega)]
                refine ⟨Rg.of (n := 40) (by omega) (by omega), h2, h3, h4, Rg.of (n := 2) (by omega) (by omega), h6, fun t ht => by rw [et t ht]; exact h7 t ht, fun q => absurd (h8 q) (wt_ne cw), fun q => absurd q (by omega), fun t ht => by rw [et t ht]; exact h10 t ht, fun t ht => by rw [et t ht]; exact h11 t ht, fun _ _ => ?_⟩
                rw [et lift hlift, ei]
                refine ⟨k1, k2, k3, k4, k5, ?_, k7⟩
                have hle : (lst T j).toInt ≤ (nI x).toInt := by rw [lt32] at cl; omega
                unfold lst at hle
                rw [if_neg (wt_ne cw), if_pos (wt_ask cw).2, mx_int, its_int o2 o3] at hle
                omega
              · exact (p15 j hj).congr (fun w hw => by rw [tm j w hw, if_neg (by omega), if_neg (by omega)])
          · obtain ⟨hl1, hl2⟩ := hlg
            refine ⟨fun i hi => ?_, fun i hi => ?_⟩
            · show (sA (sA S 26 l (nI x)) 28 l (nI (ch - 1))).2.1 33 i = (sA (sA (sI T 0 0) 11 (3 + 10 * l + 0) (nI x)) 11 (3 + 10 * l + 5) (nI (ch - 1))).2.1 15 i
              rw [sA_row (by omega), sA_row (by omega), sA_row (by omega), sA_row (by omega)]
              exact hl1 i hi
            · rw [sA_row (by omega), sA_row (by omega), sA_row (by omega), sA_row (by omega)]
              exact hl2 i hi
      · simp only [cw, if_false, Option.bind_some, b00, if_true, Bool.false_eq_true]
        exact ⟨-2, _, _, rfl, rfl, hR.thr 0⟩
    · rw [g1, g2]
      exact ⟨-1, _, _, rfl, rfl, hR.thr 0⟩
  · rw [e1, e2]
    exact ⟨-1, _, _, rfl, rfl, hR.thr 0⟩
/-! the first load of which something holds -/
def fsr (P : Nat → Bool) : Nat → Nat → Int32
  | _, 0 => -3
  | x, d + 1 => if P x = true then nI x else fsr P (x + 1) d
/-- one cell of the reference's meet is changed -/
def Dc (c : Nat) (T T' : St) : Prop := T'.1 = T.1 ∧ T'.2.2 = T.2.2 ∧ ∀ a i, (a ≠ 11 ∨ i ≠ c) → T'.2.1 a i = T.2.1 a i
theorem Dc.rfl (c : Nat) (T : St) : Dc c T T := ⟨Eq.refl _, Eq.refl _, fun _ _ _ => Eq.refl _⟩
theorem Dc.set {c : Nat} {T T' : St} (h : Dc c T T') (v : Int32) : Dc c T (sA T' 11 c v) := by
  refine ⟨h.1, h.2.1, fun a i hai => ?_⟩
  rw [sA_21]
  by_cases c1 : a = 11
  · subst c1
    rw [if_pos (Eq.refl _), if_neg (by omega)]
    exact h.2.2 11 i (by omega)
  · rw [if_neg c1]; exact h.2.2 a i hai
theorem Dc.back {c : Nat} {T T' : St} (h : Dc c T T') : EqT T (sA T' 11 c (T.2.1 11 c)) ∧ (sA T' 11 c (T.2.1 11 c)).1 = T.1 ∧ (sA T' 11 c (T.2.1 11 c)).2.2 = T.2.2 := by
  have e : (sA T' 11 c (T.2.1 11 c)).2.1 = T.2.1 := by
    funext a i
    rw [sA_21]
    by_cases c1 : a = 11
    · subst c1
      rw [if_pos (Eq.refl _)]
      by_cases c2 : i = c
      · rw [if_pos c2, c2]
      · rw [if_neg c2]; exact h.2.2 11 i (by omega)
    · rw [if_neg c1]; exact h.2.2 a i (by omega)
  have e1 : (sA T' 11 c (T.2.1 11 c)).1 = T.1 := h.1
  refine ⟨⟨?_, ?_, ?_, ?_, ?_⟩, e1, h.2.1⟩
  · rw [e1]; exact ⟨Eq.refl _, Eq.refl _, Eq.refl _, Eq.refl _, Eq.refl _⟩
  all_goals (rw [e]; try (intros; exact Eq.refl _))
theorem slot8_L {k l : Nat} {S T : St} (hv : VR 30 25 k S T) (hl : l < k) (q : Int32) : ∀ d x n, x + d = 41 → d + 9 ≤ n → m_X8_slot_L37 n S (nI l) q (nI x) = some (fsr (fun y => decide (nI (cntR (fun j => decide (j ≠ l) && (wt T j && decide (key T j < kyA T (nI y) l))) 0 k) = q)) x d) := by
  intro d
  induction d with
  | zero =>
    intro x n hx hn
    obtain ⟨m, rfl⟩ : ∃ m, n = m + 1 := ⟨n - 1, by omega⟩
    unfold m_X8_slot_L37
    rw [lit32 40, if_pos (by rw [ltN (by omega) (by omega)]; omega)]
    rfl
  | succ d ih =>
    intro x n hx hn
    obtain ⟨m, rfl⟩ : ∃ m, n = m + 1 := ⟨n - 1, by omega⟩
    unfold m_X8_slot_L37
    rw [lit32 40, if_neg (by rw [ltN (by omega) (by omega)]; omega), sooner_eq hv hl (nI x) (by omega), s1, ih (x + 1) m (by omega) (by omega)]
    simp only [Option.bind_some]
    show _ = some (if decide (nI (cntR (fun j => decide (j ≠ l) && (wt T j && decide (key T j < kyA T (nI x) l))) 0 k) = q) = true then nI x else _)
    by_cases c : nI (cntR (fun j => decide (j ≠ l) && (wt T j && decide (key T j < kyA T (nI x) l))) 0 k) = q
    · rw [if_pos c, if_pos (by simpa using c)]
    · rw [if_neg c, if_neg (by simpa using c)]
theorem slot9_L {k l : Nat} {S T : St} (hv : VR 30 25 k S T) (hl : l < k) (hw : wt T l = true) {L0 : Nat} (hL0 : 1 ≤ L0) (hL : lst T l = nI L0) (hL4 : L0 ≤ 41) (q was : Int32) : ∀ d x n T', x + 1 = L0 + d → x ≤ 40 → d + 9 ≤ n → Dc (3 + 10 * l + 0) T T' → ¬ mt T' l 0 ≤ 0 →
    ∃ T2, Dc (3 + 10 * l + 0) T T2 ∧ m_X9_slot_L45 n T' (nI l) q was (fsr (fun y => decide (nI (cntR (fun j => decide (j ≠ l) && (wt T j && decide (key T j < kyA T (nI y) l))) 0 k) = q)) (x + 1) (40 - x)) (nI x) = some (T2, fsr (fun y => decide (nI (cntR (fun j => decide (j ≠ l) && (wt T j && decide (key T j < kyA T (nI y) l))) 0 k) = q)) L0 (41 - L0)) := by
  have hk := hv.1
  obtain ⟨hr1, hr2, hr3⟩ := hv.rt
  have hoth : ∀ T', Dc (3 + 10 * l + 0) T T' → ∀ j w, w < 10 → (j ≠ l ∨ w ≠ 0) → mt T' j w = mt T j w := fun T' h j w hw hj => h.2.2 11 (3 + 10 * j + w) (by omega)
  have hout : mt T l 6 ≠ 1 := fun e => wt_ne hw ((hr3 l hl).2.1 e)
  have hover : T.2.1 11 0 ≠ 3 := fun e => wt_ne hw ((hr3 l hl).2.2 e)
  have hrt : ∀ T', Dc (3 + 10 * l + 0) T T' → ¬ mt T' l 0 ≤ 0 → RT k T' := fun T' h h0 => by
    refine ⟨hk, by rw [h.1]; exact hr2, fun j hj => ?_⟩
    obtain ⟨p1, p2, p3⟩ := hr3 j hj
    rw [h.2.2 5 j (by omega), h.2.2 11 0 (by omega), hoth T' h j 6 (by omega) (by omega)]
    by_cases cj : j = l
    · subst cj
      exact ⟨p1, fun e => absurd e hout, fun e => absurd e hover⟩
    · rw [hoth T' h j 0 (by omega) (by omega)]
      exact ⟨p1, p2, p3⟩
  have hlst : ∀ T', Dc (3 + 10 * l + 0) T T' → ¬ mt T' l 0 ≤ 0 → lst T' l = nI L0 := fun T' h h0 => by
    rw [← hL]
    unfold lst its
    rw [if_neg (fun e => h0 (by rw [e]; decide)), if_neg (wt_ne hw), hoth T' h l 1 (by omega) (by omega), hoth T' h l 2 (by omega) (by omega), hoth T' h l 3 (by omega) (by omega), h.2.2 11 2 (by omega)]
  intro d
  induction d with
  | zero =>
    intro x n T' hx hx4 hn hD h0
    obtain ⟨m, rfl⟩ : ∃ m, n = m + 1 := ⟨n - 1, by omega⟩
    refine ⟨T', hD, ?_⟩
    unfold m_X9_slot_L45
    rw [least9 (hrt T' hD h0) hl, hlst T' hD h0]
    simp only [Option.bind_some]
    rw [if_pos (by rw [ltN (by omega) (by omega)]; omega), show x + 1 = L0 by omega, show 40 - x = 41 - L0 by omega]
  | succ d ih =>
    intro x n T' hx hx4 hn hD h0
    obtain ⟨m, rfl⟩ : ∃ m, n = m + 1 := ⟨n - 1, by omega⟩
    unfold m_X9_slot_L45
    rw [least9 (hrt T' hD h0) hl, hlst T' hD h0]
    simp only [Option.bind_some]
    rw [if_neg (by rw [ltN (by omega) (by omega)]; omega), sets0 (nI x) (by omega)]
    simp only [Option.bind_some]
    have hD2 := hD.set (nI x)
    have h02 : mt (sA T' 11 (3 + 10 * l + 0) (nI x)) l 0 = nI x := by rw [mt_set (by omega) (by omega), if_pos ⟨rfl, rfl⟩]
    have h03 : ¬ mt (sA T' 11 (3 + 10 * l + 0) (nI x)) l 0 ≤ 0 := by rw [h02, show (0 : Int32) = nI 0 from rfl, leN (by omega) (by omega)]; omega
    rw [calledAhead_eq (hrt _ hD2 h03) hl (by omega)]
    have hcnt : rnk k (wt (sA T' 11 (3 + 10 * l + 0) (nI x))) (key (sA T' 11 (3 + 10 * l + 0) (nI x))) l = cntR (fun j => decide (j ≠ l) && (wt T j && decide (key T j < kyA T (nI x) l))) 0 k := by
      apply cntR_congr
      intro j _ _
      have kl : key (sA T' 11 (3 + 10 * l + 0) (nI x)) l = kyA T (nI x) l := by
        unfold key kyA
        rw [h02, hD2.2.2 5 l (by omega)]
      by_cases cj : j = l
      · subst cj
        simp
      · have k1 : wt (sA T' 11 (3 + 10 * l + 0) (nI x)) j = wt T j := by
          unfold wt
          rw [hoth _ hD2 j 0 (by omega) (by omega), hoth _ hD2 j 1 (by omega) (by omega)]
        have k2 : key (sA T' 11 (3 + 10 * l + 0) (nI x)) j = key T j := by
          unfold key kyA
          rw [hoth _ hD2 j 0 (by omega) (by omega), hD2.2.2 5 j (by omega)]
        rw [k1, k2, kl]
        simp [cj]
    rw [hcnt]
    simp only [Option.bind_some]
    obtain ⟨y, rfl⟩ : ∃ y, x = y + 1 := ⟨x - 1, by omega⟩
    rw [pk_m1]
    obtain ⟨T2, g1, g2⟩ := ih y m _ (by omega) (by omega) (by omega) hD2 h03
    refine ⟨T2, g1, ?_⟩
    rw [show 40 - y = (40 - (y + 1)) + 1 by omega] at g2
    rw [← g2]
    show _ = m_X9_slot_L45 m _ (nI l) q was (if decide (nI (cntR (fun j => decide (j ≠ l) && (wt T j && decide (key T j < kyA T (nI (y + 1)) l))) 0 k) = q) = true then nI (y + 1) else _) (nI y)
    by_cases c : nI (cntR (fun j => decide (j ≠ l) && (wt T j && decide (key T j < kyA T (nI (y + 1)) l))) 0 k) = q
    · rw [if_pos c, if_pos (by simpa using c)]
    · rw [if_neg c, if_neg (by simpa using c)]
theorem lst_nat {ib ab k l : Nat} {S T : St} (hv : VR ib ab k S T) (hl : l < k) (h0 : mt T l 0 ≠ 0) : ∃ L0 : Nat, 1 ≤ L0 ∧ L0 ≤ 41 ∧ lst T l = nI L0 := by
  obtain ⟨o0, o2, o3, _⟩ := hv.own hl
  have hbar : Rg (T.2.1 11 2) 0 40 := by
    obtain ⟨lift, round, done, g1, g2, g3, g4, g5, _⟩ := hv.2.2.2.2.2.2
    exact g5
  obtain ⟨a, ha, ea⟩ := o2.nat (n := 40)
  obtain ⟨b, hb, eb⟩ := o3.nat (n := 1)
  have hi : Rg (its T l) 1 41 := by
    have := its_int o2 o3
    unfold Rg
    rw [this]
    unfold itsI
    rw [show T.2.1 11 (3 + 10 * l + 2) = nI a from ea, show T.2.1 11 (3 + 10 * l + 3) = nI b from eb]
    by_cases c : nI a = 0
    · rw [if_pos c]; omega
    · rw [if_neg c, tiN (by omega), tiN (by omega)]
      have : a ≠ 0 := fun q => c (by rw [q]; rfl)
      omega
  have : Rg (lst T l) 1 41 := by
    unfold lst
    rw [if_neg h0]
    split
    · have h1 := hi.1; have h2 := hi.2; have h3 := hbar.1; have h4 := hbar.2
      unfold Rg
      rw [mx_int]
      omega
    · exact hi
  exact this.nat1 (n := 41)
/-- slot -/
theorem hb_15 (n : Nat) (hn : 100 ≤ n) : HB_15 n RelB := by
  intro S oF oP T a1 a2 hR
  obtain ⟨hf, hro, k, hc⟩ := id hR
  have hv := hc.vr.congrT (EqT.thr T 0)
  have hk := hv.1
  unfold m_X8_slot m_X9_slot
  simp only [nmE]
  rcases isL hv a1 with ⟨l, hl, rfl, e1, e2⟩ | ⟨e1, e2⟩
  · rw [e1, e2]
    simp only [Option.bind_some, b10, if_false]
    by_cases c0 : 0 ≤ a2
    · rw [if_pos c0, if_pos c0, hv.waits hl, still_eq hv.rt hl]
      by_cases cw : wt (sI T 0 0) l = true
      · simp only [cw, if_true, Option.bind_some, b10, if_false]
        obtain ⟨L0, hL1, hL2, hL3⟩ := lst_nat hv hl (wt_ne cw)
        rw [least8 hv hl, of0 (by omega), hL3]
        simp only [Option.bind_some]
        rw [slot8_L hv hl a2 (41 - L0) L0 n (by omega) (by omega)]
        obtain ⟨T2, d1, d2⟩ := slot9_L hv hl cw hL1 hL3 hL2 a2 (mt (sI T 0 0) l 0) (41 - L0) 40 n (sI T 0 0) (by omega) (by omega) (by omega) (Dc.rfl _ _) (wt_ask cw).1
        rw [show fsr (fun y => decide (nI (cntR (fun j => decide (j ≠ l) && (wt (sI T 0 0) j && decide (key (sI T 0 0) j < kyA (sI T 0 0) (nI y) l))) 0 k) = a2)) (40 + 1) (40 - 40) = -3 from rfl, show nI 40 = 40 from rfl] at d2
        rw [d2]
        simp only [Option.bind_some]
        rw [sets0 _ (by omega)]
        obtain ⟨b1, b2, b3⟩ := d1.back
        refine ⟨_, _, rfl, rfl, hf, ?_, k, hc.congr (EqS.rfl S) ((EqT.thr T 0).trans b1)⟩
        obtain ⟨t, ht, r1, r2, r3⟩ := hro
        refine ⟨t, ht, r1, ?_, ?_⟩
        · show (sA T2 11 (3 + 10 * l + 0) (mt (sI T 0 0) l 0)).1 1 = _
          rw [b2]; exact r2
        · intro j hj
          show _ = (sA T2 11 (3 + 10 * l + 0) (mt (sI T 0 0) l 0)).2.2.1 2 j
          rw [b3]; exact r3 j hj
      · have cw2 : wt (sI T 0 0) l = false := by simpa using cw
        simp only [cw2, if_false, Option.bind_some, b00, if_true, Bool.false_eq_true]
        exact ⟨-2, _, rfl, rfl, hR.thr 0⟩
    · rw [if_neg c0, if_neg c0]
      exact ⟨-1, _, rfl, rfl, hR.thr 0⟩
  · rw [e1, e2]
    exact ⟨-1, _, rfl, rfl, hR.thr 0⟩
