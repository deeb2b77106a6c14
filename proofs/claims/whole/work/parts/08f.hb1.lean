/-! ===== layer B: the calls that read ===== -/
theorem EqT.thr (T : St) (v : Int32) : EqT T (sI T 0 v) := EqT.rfl T
theorem RelB.thr {S : St} {oF oP : Option St} {T : St} (h : RelB S oF oP T) (v : Int32) : RelB S oF oP (sI T 0 v) := by
  obtain ⟨hf, hr, k, hc⟩ := h
  exact ⟨hf, hr, k, hc.congr (EqS.rfl S) (EqT.thr T v)⟩
theorem VR.congr {k : Nat} {S T S' T' : St} (h : VR 30 25 k S T) (e : EqS S S') (f : EqT T T') : VR 30 25 k S' T' := by
  have h' := h.congrT f
  obtain ⟨hk, h3, h10, hli, hlo, hme, hmi⟩ := h'
  exact ⟨hk, h3, h10, fun l hl => (hli l hl).congr (e.1 _ (by omega) (by omega)) (e.1 _ (by omega) (by omega)) (e.2 _ (by omega)) (e.2 _ (by omega)) (fun _ _ _ => rfl), hlo, hme.congr (fun i hi => e.1 _ (by omega) (by omega)) (fun i h1 h2 => e.2 _ (by omega)) rfl rfl rfl rfl, hmi⟩
theorem isL {k : Nat} {S T : St} (h : VR 30 25 k S T) (a : Int32) : (∃ l, l < k ∧ a = nI l ∧ m_X8_isLifter S a = some 1 ∧ m_X9_isLifter T a = some 1) ∨ (m_X8_isLifter S a = some 0 ∧ m_X9_isLifter T a = some 0) := by
  have hk := h.1
  have et : ((T.1 3) - 1).toInt64.toInt = (k : Int) - 1 := by
    rw [t64, h.2.1, show (1 : Int32) = nI 1 from rfl, pk_sub_toInt (by omega) (by omega)]
    rfl
  have hs : S.1 30 = nI k := h.size
  unfold m_X8_isLifter m_X9_isLifter
  rcases cases32 a k (by omega) with ⟨l, hl, rfl⟩ | hc
  · left
    refine ⟨l, hl, rfl, ?_, ?_⟩
    · rw [if_neg (nI_pos (by omega)), hs, if_neg (by rw [leN (by omega) (by omega)]; omega)]
    · rw [in_yes (by rw [t64, tiN (by omega)]; show (0 : Int) ≤ l; omega) (by rw [et, t64, tiN (by omega)]; omega)]
      rfl
  · right
    refine ⟨?_, ?_⟩
    · by_cases c : a < 0
      · rw [if_pos c]
      · rw [if_neg c, hs, if_pos]
        rw [le32, tiN (by omega)]
        rw [lt32] at c
        have : ¬ a.toInt < 0 := c
        omega
    · rw [in_no (by rw [et, t64]; show a.toInt < 0 ∨ (k : Int) - 1 < a.toInt; omega)]
      rfl
theorem isT (S T : St) (a : Int32) : (∃ t, t < 3 ∧ a = nI t ∧ m_X8_isLift S a = some 1 ∧ m_X9_isLift T a = some 1) ∨ (m_X8_isLift S a = some 0 ∧ m_X9_isLift T a = some 0) := by
  unfold m_X8_isLift m_X9_isLift
  rcases cases32 a 3 (by omega) with ⟨l, hl, rfl⟩ | hc
  · left
    refine ⟨l, hl, rfl, ?_, ?_⟩
    · rw [if_neg (nI_pos (by omega)), lit32 3, if_neg (by rw [leN (by omega) (by omega)]; omega)]
    · rw [in_yes (by rw [t64, tiN (by omega)]; show (0 : Int) ≤ l; omega) (by rw [t64, tiN (by omega)]; show (l : Int) ≤ 2; omega)]
      rfl
  · right
    refine ⟨?_, ?_⟩
    · by_cases c : a < 0
      · rw [if_pos c]
      · rw [if_neg c, if_pos]
        rw [le32]
        rw [lt32] at c
        have : ¬ a.toInt < 0 := c
        show 3 ≤ a.toInt
        omega
    · rw [in_no (by rw [t64]; show a.toInt < 0 ∨ 2 < a.toInt; omega)]
      rfl
theorem isX (S T : St) (a : Int32) : (∃ x, 1 ≤ x ∧ x ≤ 40 ∧ a = nI x ∧ m_X8_isLoad S a = some 1 ∧ m_X9_in T a.toInt64 1 40 = some 1) ∨ (m_X8_isLoad S a = some 0 ∧ m_X9_in T a.toInt64 1 40 = some 0) := by
  unfold m_X8_isLoad
  rw [in_eq, t64]
  simp only [lt32]
  rw [show Int32.toInt 1 = 1 from rfl, show Int32.toInt 40 = 40 from rfl, show Int64.toInt 1 = 1 from rfl, show Int64.toInt 40 = 40 from rfl]
  by_cases c1 : a.toInt < 1
  · right
    rw [if_pos c1, if_neg (by omega)]
    exact ⟨rfl, rfl⟩
  · by_cases c2 : 40 < a.toInt
    · right
      rw [if_neg c1, if_pos c2, if_neg (by omega)]
      exact ⟨rfl, rfl⟩
    · left
      obtain ⟨x, h1, h2, h3⟩ := Rg.nat1 (x := a) (n := 40) ⟨by omega, by show a.toInt ≤ 40; omega⟩
      refine ⟨x, h1, h2, h3, ?_, ?_⟩
      · rw [if_neg c1, if_neg c2]
      · rw [if_pos ⟨by omega, by omega⟩]
theorem outs_L {k : Nat} {S T : St} (h : VR 30 25 k S T) : ∀ d i n n' x, i + d = k → d + 1 ≤ n → d + 1 ≤ n' → ∃ v, m_X4_outBits_L4 30 25 n S x (nI i) = some v ∧ m_X9_outs_L4 n' T x (nI i) = some v := by
  intro d
  induction d with
  | zero =>
    intro i n n' x hi hn hn'
    obtain ⟨m, rfl⟩ : ∃ m, n = m + 1 := ⟨n - 1, by omega⟩
    obtain ⟨m', rfl⟩ : ∃ m, n' = m + 1 := ⟨n' - 1, by omega⟩
    have hk := h.1
    refine ⟨x, ?_, ?_⟩
    · unfold m_X4_outBits_L4
      rw [h.size, if_pos (by rw [leN (by omega) (by omega)]; omega)]
    · unfold m_X9_outs_L4
      rw [h.2.1, if_pos (by rw [leN (by omega) (by omega)]; omega)]
  | succ d ih =>
    intro i n n' x hi hn hn'
    obtain ⟨m, rfl⟩ : ∃ m, n = m + 1 := ⟨n - 1, by omega⟩
    obtain ⟨m', rfl⟩ : ∃ m, n' = m + 1 := ⟨n' - 1, by omega⟩
    have hk := h.1
    have hi' : i < k := by omega
    unfold m_X4_outBits_L4 m_X9_outs_L4
    have hlt : ¬ nI k ≤ nI i := by rw [leN (by omega) (by omega)]; omega
    rw [h.size, h.2.1, if_neg hlt, if_neg hlt, ckN (by omega) (by omega), clN (by omega), s1, of6 (by omega), (h.cell hi').2.2.2.1]
    rcases rg01 (h.own hi').2.2.2.2.2.1 with q | q
    · rw [q, if_pos rfl]
      simp only [Option.bind_some]
      rw [show x ||| ((0 : Int32) <<< (nI i &&& 31)) = x by simp]
      exact ih (i + 1) m m' x (by omega) (by omega) (by omega)
    · rw [q, if_neg (by decide)]
      simp only [Option.bind_some]
      exact ih (i + 1) m m' _ (by omega) (by omega) (by omega)
/-- count -/
theorem hb_34 (n : Nat) (hn : 100 ≤ n) : HB_34 n RelB := by
  intro S oF oP T a1 hR
  obtain ⟨hf, hro, k, hc⟩ := id hR
  have hv := hc.vr.congrT (EqT.thr T 0)
  have hk := hv.1
  unfold m_X8_count m_X9_count
  simp only [nmE]
  have hme := hc.2.2.2.2.2.2.1
  obtain ⟨t, ht, r1, r2, r3⟩ := hro
  obtain ⟨len, hlen, e1, e2, htp⟩ := hc.2.2.2.1
  obtain ⟨v, v1, v2⟩ := outs_L hv k 0 n n 0 (by omega) (by omega) (by omega)
  have v1' : m_X4_outBits 30 25 n S = some v := by unfold m_X4_outBits; rw [show (0 : Int32) = nI 0 from rfl] at *; rw [v1]; rfl
  have v2' : m_X9_outs n (sI T 0 0) = some v := by unfold m_X9_outs; rw [show (0 : Int32) = nI 0 from rfl] at *; rw [v2]; rfl
  rw [v1', v2']
  have g0 : S.1 30 = T.1 3 := hme.1.trans hc.2.1.symm
  have g1 : S.1 32 = T.2.1 11 0 := hme.2.2.1
  have g2 : S.1 33 = T.2.1 11 1 := hme.2.2.2.1
  have g3 : S.1 34 = T.2.1 11 2 := hme.2.2.2.2.1
  have g4 : S.1 35 = T.1 13 := hme.2.2.2.2.2.1
  have g5 : S.1 36 = T.1 14 := hme.2.2.2.2.2.2.1
  have g6 : S.1 31 = T.1 10 := hme.2.1
  have g7 : S.1 0 = T.1 1 := r1.trans r2.symm
  have g8 : S.1 1 = T.1 18 := e1.trans e2.symm
  rw [g0, g1, g2, g3, g4, g5, g6, g7, g8]
  by_cases c0 : a1 = 0
  · rw [if_pos c0, if_pos c0]; exact ⟨_, _, rfl, rfl, hR.thr 0⟩
  rw [if_neg c0, if_neg c0]
  by_cases c1 : a1 = 1
  · rw [if_pos c1, if_pos c1]; exact ⟨_, _, rfl, rfl, hR.thr 0⟩
  rw [if_neg c1, if_neg c1]
  by_cases c2 : a1 = 2
  · rw [if_pos c2, if_pos c2]; exact ⟨_, _, rfl, rfl, hR.thr 0⟩
  rw [if_neg c2, if_neg c2]
  by_cases c3 : a1 = 3
  · rw [if_pos c3, if_pos c3]; exact ⟨_, _, rfl, rfl, hR.thr 0⟩
  rw [if_neg c3, if_neg c3]
  by_cases c4 : a1 = 4
  · rw [if_pos c4, if_pos c4]; exact ⟨_, _, rfl, rfl, hR.thr 0⟩
  rw [if_neg c4, if_neg c4]
  by_cases c5 : a1 = 5
  · rw [if_pos c5, if_pos c5]; exact ⟨_, _, rfl, rfl, hR.thr 0⟩
  rw [if_neg c5, if_neg c5]
  by_cases c6 : a1 = 6
  · rw [if_pos c6, if_pos c6]; exact ⟨_, _, rfl, rfl, hR.thr 0⟩
  rw [if_neg c6, if_neg c6]
  by_cases c7 : a1 = 7
  · rw [if_pos c7, if_pos c7]; exact ⟨_, _, rfl, rfl, hR.thr 0⟩
  rw [if_neg c7, if_neg c7]
  by_cases c8 : a1 = 8
  · rw [if_pos c8, if_pos c8]; exact ⟨_, _, rfl, rfl, hR.thr 0⟩
  rw [if_neg c8, if_neg c8]
  by_cases c9 : a1 = 9
  · rw [if_pos c9, if_pos c9]; exact ⟨_, _, rfl, rfl, hR.thr 0⟩
  rw [if_neg c9, if_neg c9]
  exact ⟨_, _, rfl, rfl, hR.thr 0⟩
/-- odds -/
theorem hb_7 (n : Nat) (hn : 100 ≤ n) : HB_7 n RelB := by
  intro S oF oP T a1 a2 a3 a4 hR
  obtain ⟨hf, hro, k, hc⟩ := id hR
  have hv := hc.vr.congrT (EqT.thr T 0)
  have hk := hv.1
  unfold m_X8_odds m_X9_odds
  simp only [nmE]
  rcases isL hv a1 with ⟨l, hl, rfl, e1, e2⟩ | ⟨e1, e2⟩
  · rw [e1, e2]
    simp only [Option.bind_some, b10, if_false]
    rcases isT S (sI T 0 0) a2 with ⟨t, ht, rfl, f1, f2⟩ | ⟨f1, f2⟩
    · rw [f1, f2]
      simp only [Option.bind_some, b10, if_false]
      rcases isX S (sI T 0 0) a3 with ⟨x, hx1, hx2, rfl, g1, g2⟩ | ⟨g1, g2⟩
      · rw [g1, g2]
        simp only [Option.bind_some, b10, if_false]
        rcases cases32 a4 3 (by omega) with ⟨f, hf3, rfl⟩ | hc4
        · rw [in_yes (by rw [t64, tiN (by omega)]; show (0 : Int) ≤ f; omega) (by rw [t64, tiN (by omega)]; show (f : Int) ≤ 2; omega)]
          rw [if_neg (nI_pos (by omega)), lit32 2, if_pos (by rw [leN (by omega) (by omega)]; omega), ckN (by omega) (by omega), clN (by omega), odds8 hv hl ht hx1 hx2, odds9 hv hl ht (by omega)]
          simp only [Option.bind_some, b10, if_false]
          refine ⟨od T l t (nI x) (nI f), _, ?_, rfl, hR.thr 0⟩
          rw [show S.1 31 = T.1 10 from hc.vr.tire, Int32.mul_comm]
          rfl
        · rw [in_no (by rw [t64]; show a4.toInt < 0 ∨ 2 < a4.toInt; omega)]
          refine ⟨-1, _, ?_, rfl, hR.thr 0⟩
          by_cases c : a4 < 0
          · rw [if_pos c]
          · rw [if_neg c, if_neg]
            rw [le32]
            rw [lt32] at c
            have : ¬ a4.toInt < 0 := c
            show ¬ a4.toInt ≤ 2
            omega
      · rw [g1, g2]
        exact ⟨-1, _, rfl, rfl, hR.thr 0⟩
    · rw [f1, f2]
      exact ⟨-1, _, rfl, rfl, hR.thr 0⟩
  · rw [e1, e2]
    exact ⟨-1, _, rfl, rfl, hR.thr 0⟩
theorem planOf9 {T : St} {l t w : Nat} (hl : l < 6) (ht : t < 3) (hw : w < 3) : m_X9_planOf T (nI l) (nI t) (nI w) = some (T.2.1 9 (3 * (3 * l + t) + w)) := by
  unfold m_X9_planOf
  rw [show (3 : Int32) * (3 * nI l + nI t) + nI w = nI (3 * (3 * l + t) + w) by rw [lit32 3, pk_mul, nI_add, pk_mul, nI_add], ckN (by omega) (by omega), clN (by omega)]
/-- lifter -/
theorem hb_8 (n : Nat) : HB_8 n RelB := by
  intro S oF oP T a1 a2 a3 hR
  obtain ⟨hf, hro, k, hc⟩ := id hR
  have hv := hc.vr.congrT (EqT.thr T 0)
  have hk := hv.1
  unfold m_X8_lifter m_X9_lifter
  simp only [nmE]
  rcases isL hv a1 with ⟨l, hl, rfl, e1, e2⟩ | ⟨e1, e2⟩
  · rw [e1, e2]
    simp only [Option.bind_some, b10, if_false]
    rcases isT S (sI T 0 0) a2 with ⟨t, ht, rfl, f1, f2⟩ | ⟨f1, f2⟩
    · rw [f1, f2]
      simp only [Option.bind_some, b10, if_false]
      obtain ⟨c1, c2, c3, c4, c5, c6, c7⟩ := hv.cell hl
      have hlif := hv.2.2.2.1 l hl
      have hp := (hlif.2.2.2.2.1 t ht).1
      rw [show nI t * 3 = nI (3 * t) by rw [lit32 3, pk_mul, Nat.mul_comm], show nI l * 3 = nI (3 * l) by rw [lit32 3, pk_mul, Nat.mul_comm], show nI (3 * t) + 1 = nI (3 * t + 1) by rw [lit32 1, nI_add], show nI (3 * t) + 2 = nI (3 * t + 2) by rw [lit32 2, nI_add], show nI (3 * l) + nI t = nI (3 * l + t) by rw [nI_add], show (7 : Int32) + nI t = nI (7 + t) by rw [lit32 7, nI_add]]
      rw [show m_X9_planOf (sI T 0 0) (nI l) (nI t) 0 = _ from planOf9 (w := 0) (by omega) ht (by omega), show m_X9_planOf (sI T 0 0) (nI l) (nI t) 1 = _ from planOf9 (w := 1) (by omega) ht (by omega), show m_X9_planOf (sI T 0 0) (nI l) (nI t) 2 = _ from planOf9 (w := 2) (by omega) ht (by omega)]
      rw [least8 hc.vr hl, hc.vr.waits hl, sum8 hc.vr hl, least9 hv.rt hl, still_eq hv.rt hl, sum9 (by omega), of0 (by omega), of5 (by omega), of6 (by omega), of_eq (by omega) (by omega)]
      simp only [ckN (show l < 6 by omega) (show 6 < 2147483648 by omega), ckN (show l < 7 by omega) (show 7 < 2147483648 by omega)]
      rw [ckN (by omega) (by omega), ckN (by omega) (by omega), ckN (by omega) (by omega), ckN (by omega) (by omega), clN (by omega), clN (by omega), clN (by omega), clN (by omega), clN (by omega)]
      rw [show S.1 (10 + 2 * l) = T.2.1 4 l from hlif.1, show S.1 (11 + 2 * l) = T.2.1 5 l from hlif.2.2.1, show S.2.1 (6 + 3 * l) (3 * t) = T.2.1 9 (3 * (3 * l + t) + 0) from hp 0 (by omega), show S.2.1 (6 + 3 * l) (3 * t + 1) = T.2.1 9 (3 * (3 * l + t) + 1) from hp 1 (by omega), show S.2.1 (6 + 3 * l) (3 * t + 2) = T.2.1 9 (3 * (3 * l + t) + 2) from hp 2 (by omega)]
      rw [show S.2.1 30 (3 * l + t) = mt T l (7 + t) from c7 t ht, show S.2.1 26 l = mt T l 0 from c1, show S.2.1 28 l = mt T l 5 from c3, show S.2.1 29 l = mt T l 6 from c4]
      simp only [Option.bind_some]
      unfold m_X9_flag
      by_cases d0 : a3 = 0
      · rw [if_pos d0, if_pos d0]; exact ⟨_, _, rfl, rfl, hR.thr 0⟩
      rw [if_neg d0, if_neg d0]
      by_cases d1 : a3 = 1
      · rw [if_pos d1, if_pos d1]; exact ⟨_, _, rfl, rfl, hR.thr 0⟩
      rw [if_neg d1, if_neg d1]
      by_cases d2 : a3 = 2
      · rw [if_pos d2, if_pos d2]; exact ⟨_, _, rfl, rfl, hR.thr 0⟩
      rw [if_neg d2, if_neg d2]
      by_cases d3 : a3 = 3
      · rw [if_pos d3, if_pos d3]; exact ⟨_, _, rfl, rfl, hR.thr 0⟩
      rw [if_neg d3, if_neg d3]
      by_cases d4 : a3 = 4
      · rw [if_pos d4, if_pos d4]; exact ⟨_, _, rfl, rfl, hR.thr 0⟩
      rw [if_neg d4, if_neg d4]
      by_cases d5 : a3 = 5
      · rw [if_pos d5, if_pos d5]; exact ⟨_, _, rfl, rfl, hR.thr 0⟩
      rw [if_neg d5, if_neg d5]
      by_cases d6 : a3 = 6
      · rw [if_pos d6, if_pos d6]; exact ⟨_, _, rfl, rfl, hR.thr 0⟩
      rw [if_neg d6, if_neg d6]
      by_cases d7 : a3 = 7
      · rw [if_pos d7, if_pos d7]; exact ⟨_, _, rfl, rfl, hR.thr 0⟩
      rw [if_neg d7, if_neg d7]
      by_cases d8 : a3 = 8
      · rw [if_pos d8, if_pos d8]; exact ⟨_, _, rfl, rfl, hR.thr 0⟩
      rw [if_neg d8, if_neg d8]
      by_cases d9 : a3 = 9
      · rw [if_pos d9, if_pos d9]
        rw [show wt (sI T 0 0) l = wt T l from rfl]
        by_cases w : wt T l = true
        · rw [if_pos w]; exact ⟨1, _, rfl, rfl, hR.thr 0⟩
        · rw [if_neg w]; exact ⟨0, _, rfl, rfl, hR.thr 0⟩
      rw [if_neg d9, if_neg d9]
      by_cases d10 : a3 = 10
      · rw [if_pos d10, if_pos d10]
        rcases rg01 (hc.vr.own hl).2.2.2.2.2.1 with q | q
        · rw [show mt (sI T 0 0) l 6 = mt T l 6 from rfl, q]; exact ⟨0, _, rfl, rfl, hR.thr 0⟩
        · rw [show mt (sI T 0 0) l 6 = mt T l 6 from rfl, q]; exact ⟨1, _, rfl, rfl, hR.thr 0⟩
      rw [if_neg d10, if_neg d10]
      by_cases d11 : a3 = 11
      · rw [if_pos d11, if_pos d11]; exact ⟨_, _, rfl, rfl, hR.thr 0⟩
      rw [if_neg d11, if_neg d11]
      exact ⟨_, _, rfl, rfl, hR.thr 0⟩
    · rw [f1, f2]
      exact ⟨-1, _, rfl, rfl, hR.thr 0⟩
  · rw [e1, e2]
    exact ⟨-1, _, rfl, rfl, hR.thr 0⟩
/-! two numbers are told -/
theorem tellTwo8 (S : St) (a b : Int32) : m_X8_tellTwo S a b = some (sI (sJ (sJ S 58 0 a.toInt64) 58 1 b.toInt64) 0 2) := rfl
theorem EqS.tell {S0 S : St} (h : EqS S0 S) (i : Nat) (v : Int64) : EqS S0 (sJ S 58 i v) := h
theorem EqS.told {S0 S : St} (h : EqS S0 S) (v : Int32) : EqS S0 (sI S 0 v) := ⟨fun i a b => by rw [sI_1, if_neg (by omega)]; exact h.1 i a b, h.2⟩
theorem row2 (S : St) (a b : Int32) {T : St} (e : T.1 1 = nI 2) (e0 : T.2.2.1 2 0 = a.toInt64) (e1 : T.2.2.1 2 1 = b.toInt64) : RowR (sI (sJ (sJ S 58 0 a.toInt64) 58 1 b.toInt64) 0 2) T := by
  refine ⟨2, by omega, rfl, e, fun j hj => ?_⟩
  show (sJ (sJ S 58 0 a.toInt64) 58 1 b.toInt64).2.2.1 58 j = _
  rw [sJ_221, if_pos rfl]
  by_cases c : j = 1
  · rw [if_pos c, c, e1]
  · rw [if_neg c, sJ_221, if_pos rfl, if_pos (by omega), show j = 0 by omega, e0]
/-- called -/
theorem hb_9 (n : Nat) (hn : 100 ≤ n) : HB_9 n RelB := by
  intro S oF oP T hR
  obtain ⟨hf, hro, k, hc⟩ := id hR
  have hv := hc.vr.congrT (EqT.thr T 0)
  have hk := hv.1
  unfold m_X8_called m_X9_called
  simp only [nmE]
  obtain ⟨r, h1, h2, h3⟩ := called_same hv (n := n) (n' := n) (by omega) (by omega)
  rw [h1, h2]
  simp only [Option.bind_some]
  rcases h3 with ⟨rfl, _⟩ | ⟨l, hl, rfl, hw, _⟩
  · exact ⟨-2, _, _, rfl, rfl, hR.thr 0⟩
  · rw [if_pos (show (0 : Int32) ≤ nI l by rw [show (0 : Int32) = nI 0 from rfl, leN (by omega) (by omega)]; omega), if_neg (nI_ne_m1 (by omega)), ckN (by omega) (by omega), clN (by omega)]
    have hT1 : EqT T (sI (sI T 0 0) 1 0) := EqT.rfl T
    rw [of0 (by omega)]
    simp only [Option.bind_some]
    rw [notes_eq (t := 0) (by omega) rfl]
    simp only [Option.bind_some]
    have hT2 : EqT T (sI (sJ (sI (sI T 0 0) 1 0) 2 0 (mt (sI (sI T 0 0) 1 0) l 0).toInt64) 1 (nI (0 + 1))) := EqT.rfl T
    have hv2 := hc.vr.congrT hT2
    generalize hT2e : sI (sJ (sI (sI T 0 0) 1 0) 2 0 (mt (sI (sI T 0 0) 1 0) l 0).toInt64) 1 (nI (0 + 1)) = T2 at *
    rw [of0 (by omega), of4 (by omega)]
    simp only [Option.bind_some]
    obtain ⟨lift, round, done, g1, g2, g3, g4, g5, g6, _⟩ := hc.2.2.2.2.2.2.2.1
    have e11 : T2.2.1 11 = T.2.1 11 := by rw [← hT2e]; rfl
    have hlift : lift < 3 := by
      rcases Nat.lt_or_ge lift 3 with c | c
      · exact c
      · exfalso
        have e3 : T.2.1 11 0 = 3 := by rw [g3, show lift = 3 by omega]; rfl
        have := (hc.vr.rt.2.2 l hl).2.2 e3
        unfold wt at hw
        simp only [decide_eq_true_eq] at hw
        exact hw.1 (by rw [show mt (sI T 0 0) l 0 = mt T l 0 from rfl, this]; decide)
    obtain ⟨a, ha, ea⟩ := (hc.vr.own hl).1.nat (n := 40)
    have ha1 : 1 ≤ a := by
      unfold wt at hw
      simp only [decide_eq_true_eq] at hw
      rw [show mt (sI T 0 0) l 0 = mt T l 0 from rfl, ea, show (0 : Int32) = nI 0 from rfl, leN (by omega) (by omega)] at hw
      omega
    have em0 : mt T2 l 0 = nI a := by show T2.2.1 11 _ = _; rw [e11]; exact ea
    have em4 : mt T2 l 4 = mt T l 4 := by show T2.2.1 11 _ = _; rw [e11]
    have el : T2.2.1 11 ((0 : Int32).toNatClampNeg) = nI lift := by rw [e11]; exact g3
    rw [el, em0, em4, odds9 hv2 hl hlift (by omega)]
    rw [show ∀ x : Option (Int32 × St), ck 0 63 x = x from fun x => rfl]
    simp only [Option.bind_some]
    have et1 : T2.1 1 = nI 1 := by rw [← hT2e]; rfl
    have er0 : T2.2.2.1 2 0 = (nI a).toInt64 := by
      rw [← hT2e]
      show (sJ (sI (sI T 0 0) 1 0) 2 0 (mt (sI (sI T 0 0) 1 0) l 0).toInt64).2.2.1 2 0 = _
      rw [sJ_221, if_pos rfl, if_pos rfl]
      show (mt T l 0).toInt64 = _
      rw [ea]
    rw [notes_eq (t := 1) (by omega) et1]
    have e26 : S.2.1 26 l = nI a := ((hc.vr.cell hl).1).trans ea
    have eo : m_X4_oddsNow 30 25 S (nI l) = some (od T2 l lift (nI a) (mt T l 4)) := by
      unfold m_X4_oddsNow
      rw [ckN (by omega) (by omega), ckN (by omega) (by omega), ckN (by omega) (by omega), clN (by omega), show S.1 (30 + 2) = nI lift from hc.vr.lift.trans g3, show S.2.1 (25 + 1) l = nI a from e26, odds8 hv2 hl hlift ha1 ha, show S.2.1 (25 + 6) l = mt T l 4 from (hc.vr.cell hl).2.2.2.2.1, hv2.tire, Int32.mul_comm]
      rfl
    rw [eo, e26]
    simp only [Option.bind_some]
    rw [tellTwo8]
    simp only [Option.bind_some]
    refine ⟨nI l, _, _, rfl, rfl, hf, ?_, k, hc.congr (EqS.told (EqS.rfl S) 2) (hT2.trans (EqT.note (EqT.rfl T2) _ _ _))⟩
    apply row2
    · rfl
    · show (sJ T2 2 1 (od T2 l lift (nI a) (mt T l 4)).toInt64).2.2.1 2 0 = _
      rw [sJ_221, if_pos rfl, if_neg (by omega), er0]
    · show (sJ T2 2 1 (od T2 l lift (nI a) (mt T l 4)).toInt64).2.2.1 2 1 = _
      rw [sJ_221, if_pos rfl, if_pos rfl]
