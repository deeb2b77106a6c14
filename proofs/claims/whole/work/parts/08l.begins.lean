/-! ===== layer B: begins, leaves, plans ===== -/
theorem reopen {S T : St} {oF oP : Option St} {k n : Nat} (hn : 100 ≤ n) (hf : RefR S oF oP) (hro : RowR S T) (hta : TapeR S T) (hk : k ≤ 6) (g3 : T.1 3 = nI k) (g0 : S.1 30 = nI k) (g1 : S.1 31 = T.1 10) (h10 : Rg (T.1 10) 0 300) (hli : ∀ l, l < k → LifR S T l) (hlo : ∀ a b, a < k → b < k → a ≠ b → T.2.1 5 a ≠ T.2.1 5 b) :
    ∃ S' T', m_X4_open 30 25 n S = some S' ∧ m_X9_meetBegins n T = some T' ∧ RelB S' oF oP T' ∧ S'.1 30 = nI k ∧ T'.1 3 = nI k := by
  obtain ⟨S', T', e1, e2, e3, e4, e5, e6, e7, e8, e9, e10⟩ := open_same (n := n) (n' := n) hk (by omega) (by omega) g0 g3 g1 (fun l hl => by
    obtain ⟨q1, q2, q3, q4⟩ := (hli l hl).2.2.2.2.1 0 (by omega)
    have := q1 0 (by omega)
    simp only [Nat.mul_zero, Nat.add_zero] at this q2
    exact ⟨this, q2⟩)
  refine ⟨S', T', e1, e2, ⟨⟨?_, ?_, ?_⟩, ?_, k, hk, ?_, ?_, ?_, ?_, ?_, e7, e8, ?_, e10⟩, (e3.1 30 (by omega)).trans g0, (e4 3 (by omega) (by omega)).trans g3⟩
  · rw [e3.2.2]; exact hf.1
  · rw [e3.2.2]; exact hf.2.1
  · rw [e3.2.2]; exact hf.2.2
  · obtain ⟨t, ht, r1, r2, r3⟩ := hro
    exact ⟨t, ht, (e3.1 0 (by omega)).trans r1, (e4 1 (by omega) (by omega)).trans r2, fun j hj => by rw [e3.2.2, e6]; exact r3 j hj⟩
  · exact (e4 3 (by omega) (by omega)).trans g3
  · rw [e4 10 (by omega) (by omega)]; exact h10
  · exact hta.congr (e3.1 _ (by omega)) (e3.2.1 _ (by omega)) (e4 _ (by omega) (by omega)) (e5 _ (by omega))
  · exact fun l hl => (hli l hl).congr (e3.1 _ (by omega)) (e3.1 _ (by omega)) (e3.2.1 _ (by omega)) (e3.2.1 _ (by omega)) (fun a h1 h2 => e5 a (by omega))
  · rw [e5 5 (by omega)]; exact hlo
  · intro i hi
    rw [e9] at hi
    have : Int32.toInt 0 = 0 := rfl
    omega
/-- begins -/
theorem hb_6 (n : Nat) (hn : 100 ≤ n) : HB_6 n RelB := by
  intro S oF oP T hR
  obtain ⟨hf, hro, k, hk, h3, h10, hta, hli, hlo, hme, hmi, hlg⟩ := hR
  unfold m_X8_begins m_X9_begins
  simp only [nmE]
  obtain ⟨S', T', e1, e2, e3, e4, e5⟩ := reopen (S := S) (T := sI T 0 0) (oF := oF) (oP := oP) hn hf hro hta hk h3 hme.1 hme.2.1 h10 hli hlo
  rw [e1, e2]
  simp only [Option.bind_some]
  rw [e4, e5]
  exact ⟨_, _, _, rfl, rfl, e3⟩
/-- leaves -/
theorem hb_3 (n : Nat) (hn : 100 ≤ n) : HB_3 n RelB := by
  intro S oF oP T hR
  obtain ⟨hf, hro, k, hk, h3, h10, hta, hli, hlo, hme, hmi, hlg⟩ := id hR
  unfold m_X8_leaves m_X9_leaves
  simp only [nmE]
  have q1 : S.1 30 = nI k := hme.1
  have q2 : (sI T 0 0).1 3 = nI k := h3
  rw [q1, q2, if0N (by omega), if0N (by omega)]
  by_cases c : k = 0
  · rw [if_pos c, if_pos c]
    exact ⟨_, _, _, rfl, rfl, hR.thr 0⟩
  · rw [if_neg c, if_neg c, show nI k - 1 = nI (k - 1) by rw [lit32 1, subN (by omega)]]
    obtain ⟨S', T', e1, e2, e3, e4, e5⟩ := reopen (S := sI S 30 (nI (k - 1))) (T := sI (sI T 0 0) 3 (nI (k - 1))) (oF := oF) (oP := oP) (k := k - 1) hn hf hro hta (by omega) rfl rfl hme.2.1 h10 (fun l hl => (hli l (by omega)).congr (by rw [sI_1, if_neg (by omega)]) (by rw [sI_1, if_neg (by omega)]) rfl rfl (fun _ _ _ => rfl)) (fun a b ha hb => hlo a b (by omega) (by omega))
    rw [e1, e2]
    simp only [Option.bind_some]
    rw [e4, e5]
    exact ⟨_, _, _, rfl, rfl, e3⟩
theorem isP (S T : St) (w x : Int32) : (∃ j, j < 3 ∧ w = nI j ∧ Rg x (if j = 2 then 0 else 1) (if j = 0 then 40 else 9) ∧ m_X8_isPlan S w x = some 1 ∧ m_X9_in T w.toInt64 0 2 = some 1 ∧ ((if w = 2 then (some 0) else (some 1) : Option (Int64)).bind (fun q13 => ((if w = 0 then (some 40) else (some 9) : Option (Int64))).bind (fun q16 => m_X9_in T x.toInt64 q13 q16))) = some 1) ∨ (m_X8_isPlan S w x = some 0 ∧ (m_X9_in T w.toInt64 0 2 = some 0 ∨ (m_X9_in T w.toInt64 0 2 = some 1 ∧ ((if w = 2 then (some 0) else (some 1) : Option (Int64)).bind (fun q13 => ((if w = 0 then (some 40) else (some 9) : Option (Int64))).bind (fun q16 => m_X9_in T x.toInt64 q13 q16))) = some 0))) := by
  have i40 : Int64.toInt 40 = 40 := rfl
  have i9 : Int64.toInt 9 = 9 := rfl
  have i1 : Int64.toInt 1 = 1 := rfl
  have i0 : Int64.toInt 0 = 0 := rfl
  have k9 : Int32.toInt 9 = 9 := rfl
  have k1 : Int32.toInt 1 = 1 := rfl
  have k0 : Int32.toInt 0 = 0 := rfl
  unfold m_X8_isPlan
  rcases cases32 w 3 (by omega) with ⟨j, hj, rfl⟩ | hc
  · have hin : m_X9_in T (nI j).toInt64 0 2 = some 1 := in_yes (by rw [t64, tiN (by omega)]; show (0 : Int) ≤ j; omega) (by rw [t64, tiN (by omega)]; show (j : Int) ≤ 2; omega)
    rcases (by omega : j = 0 ∨ j = 1 ∨ j = 2) with rfl | rfl | rfl
    · rcases isX S T x with ⟨y, hy1, hy2, rfl, g1, g2⟩ | ⟨g1, g2⟩
      · left
        refine ⟨0, by omega, rfl, ?_, ?_, hin, ?_⟩
        · rw [if_neg (by omega), if_pos (by decide)]; unfold Rg; rw [tiN (by omega)]; omega
        · rw [if_pos (by decide), g1]; rfl
        · rw [if_neg (by decide), if_pos (by decide)]
          simp only [Option.bind_some]
          rw [in_yes (by rw [t64, tiN (by omega), i1]; omega) (by rw [t64, tiN (by omega), i40]; omega)]
      · right
        refine ⟨?_, Or.inr ⟨hin, ?_⟩⟩
        · rw [if_pos (by decide), g1]; rfl
        · rw [if_neg (by decide), if_pos (by decide)]
          simp only [Option.bind_some]
          exact g2
    · by_cases c : 1 ≤ x.toInt ∧ x.toInt ≤ 9
      · left
        refine ⟨1, by omega, rfl, ?_, ?_, hin, ?_⟩
        · rw [if_neg (by omega), if_neg (by omega)]; exact c
        · rw [if_neg (by decide), if_pos (by decide), if_neg (by rw [lt32, k1]; omega), if_neg (by rw [lt32, k9]; omega)]
        · rw [if_neg (by decide), if_neg (by decide)]
          simp only [Option.bind_some]
          rw [in_yes (by rw [t64, i1]; omega) (by rw [t64, i9]; omega)]
      · right
        refine ⟨?_, Or.inr ⟨hin, ?_⟩⟩
        · rw [if_neg (by decide), if_pos (by decide)]
          by_cases c1 : x < 1
          · rw [if_pos c1]
          · rw [if_neg c1, if_pos]
            rw [lt32, k1] at c1
            rw [lt32, k9]; omega
        · rw [if_neg (by decide), if_neg (by decide)]
          simp only [Option.bind_some]
          rw [in_no (by rw [t64, i1, i9]; omega)]
    · by_cases c : 0 ≤ x.toInt ∧ x.toInt ≤ 9
      · left
        refine ⟨2, by omega, rfl, ?_, ?_, hin, ?_⟩
        · rw [if_pos (by decide), if_neg (by omega)]; exact c
        · rw [if_neg (by decide), if_neg (by decide), if_pos (by decide), if_neg (by rw [lt32, k0]; omega), if_neg (by rw [lt32, k9]; omega)]
        · rw [if_pos (by decide), if_neg (by decide)]
          simp only [Option.bind_some]
          rw [in_yes (by rw [t64, i0]; omega) (by rw [t64, i9]; omega)]
      · right
        refine ⟨?_, Or.inr ⟨hin, ?_⟩⟩
        · rw [if_neg (by decide), if_neg (by decide), if_pos (by decide)]
          by_cases c1 : x < 0
          · rw [if_pos c1]
          · rw [if_neg c1, if_pos]
            rw [lt32, k0] at c1
            rw [lt32, k9]; omega
        · rw [if_pos (by decide), if_neg (by decide)]
          simp only [Option.bind_some]
          rw [in_no (by rw [t64, i0, i9]; omega)]
  · right
    have k2 : Int32.toInt 2 = 2 := rfl
    have j2 : Int64.toInt 2 = 2 := rfl
    refine ⟨?_, Or.inl ?_⟩
    · rw [if_neg (by rw [eq32, k0]; omega), if_neg (by rw [eq32, k1]; omega), if_neg (by rw [eq32, k2]; omega)]
    · rw [in_no (by rw [t64, i0, j2]; omega)]
/-- plans -/
theorem hb_4 (n : Nat) (hn : 100 ≤ n) : HB_4 n RelB := by
  intro S oF oP T a1 a2 a3 a4 hR
  obtain ⟨hf, hro, k, hc⟩ := id hR
  have hv := hc.vr.congrT (EqT.thr T 0)
  obtain ⟨hk, h3, h10, hta, hli, hlo, hme, hmi, hlg⟩ := hc
  unfold m_X8_plans m_X9_plans
  simp only [nmE]
  rcases isL hv a1 with ⟨l, hl, rfl, e1, e2⟩ | ⟨e1, e2⟩
  · rw [e1, e2]
    simp only [Option.bind_some, b10, if_false]
    rcases isT S (sI T 0 0) a2 with ⟨t, ht, rfl, f1, f2⟩ | ⟨f1, f2⟩
    · rw [f1, f2]
      simp only [Option.bind_some, b10, if_false]
      rcases isP S (sI T 0 0) a3 a4 with ⟨j, hj, rfl, hrg, g1, g2, g3⟩ | ⟨g1, g2⟩
      · rw [g1, g2]
        simp only [Option.bind_some, b10, if_false]
        have hx : ∀ (f : Int32 → Option (Int32 × St)), ((if nI j = 2 then (some 0) else (some 1) : Option (Int64)).bind (fun q13 => ((if nI j = 0 then (some 40) else (some 9) : Option (Int64))).bind (fun q16 => (m_X9_in (sI T 0 0) a4.toInt64 q13 q16).bind f))) = f 1 := fun f => by
          have : ((if nI j = 2 then (some 0) else (some 1) : Option (Int64)).bind (fun q13 => ((if nI j = 0 then (some 40) else (some 9) : Option (Int64))).bind (fun q16 => (m_X9_in (sI T 0 0) a4.toInt64 q13 q16).bind f))) = (((if nI j = 2 then (some 0) else (some 1) : Option (Int64)).bind (fun q13 => ((if nI j = 0 then (some 40) else (some 9) : Option (Int64))).bind (fun q16 => m_X9_in (sI T 0 0) a4.toInt64 q13 q16)))).bind f := by
            simp only [Option.bind_assoc]
          rw [this, g3]; rfl
        rw [hx]
        simp only [b10, if_false]
        rw [planOf9 (by omega) ht hj, show nI t * 3 + nI j = nI (3 * t + j) by rw [lit32 3, pk_mul, nI_add, Nat.mul_comm], show (3 : Int32) * (3 * nI l + nI t) + nI j = nI (3 * (3 * l + t) + j) by rw [lit32 3, pk_mul, nI_add, pk_mul, nI_add]]
        simp only [Option.bind_some]
        rw [ckN (by omega) (by omega), ckN (by omega) (by omega), ckN (by omega) (by omega), ckN (by omega) (by omega), clN (by omega), clN (by omega), clN (by omega)]
        have hp := ((hli l hl).2.2.2.2.1 t ht).1 j hj
        obtain ⟨S', T', e1', e2', e3', e4', e5'⟩ := reopen (S := sA S (6 + 3 * l) (3 * t + j) a4) (T := sA (sI T 0 0) 9 (3 * (3 * l + t) + j) a4) (oF := oF) (oP := oP) (k := k) hn hf hro (hta.congr rfl (sA_row (by omega)) rfl (sA_row (by omega))) hk h3 hme.1 hme.2.1 h10 (fun i hi => by
          obtain ⟨p1, p2, p3, p4, p5, p6⟩ := hli i hi
          have r4 : ∀ a, a ≠ 9 → (sA (sI T 0 0) 9 (3 * (3 * l + t) + j) a4).2.1 a = T.2.1 a := fun a ha => sA_row ha
          have r9 : ∀ u v, u < 3 → v < 3 → (sA (sI T 0 0) 9 (3 * (3 * l + t) + j) a4).2.1 9 (3 * (3 * i + u) + v) = if i = l ∧ u = t ∧ v = j then a4 else T.2.1 9 (3 * (3 * i + u) + v) := fun u v hu hv => by
            rw [sA_21, if_pos rfl]
            by_cases c : i = l ∧ u = t ∧ v = j
            · rw [if_pos c, if_pos (by rw [c.1, c.2.1, c.2.2])]
            · rw [if_neg c, if_neg (by omega)]; rfl
          have r8 : ∀ u v, u < 3 → v < 3 → (sA S (6 + 3 * l) (3 * t + j) a4).2.1 (6 + 3 * i) (3 * u + v) = if i = l ∧ u = t ∧ v = j then a4 else S.2.1 (6 + 3 * i) (3 * u + v) := fun u v hu hv => by
            by_cases ci : i = l
            · subst ci
              rw [sA_21, if_pos rfl]
              by_cases c : u = t ∧ v = j
              · rw [if_pos (show 3 * u + v = 3 * t + j by rw [c.1, c.2]), if_pos (show i = i ∧ u = t ∧ v = j from ⟨rfl, c⟩)]
              · rw [if_neg (show ¬ 3 * u + v = 3 * t + j by omega), if_neg (show ¬ (i = i ∧ u = t ∧ v = j) from fun q => c q.2)]
            · rw [sA_row (by omega), if_neg (fun q => ci q.1)]
          unfold LifR
          rw [r4 4 (by omega), r4 5 (by omega), r4 6 (by omega), r4 7 (by omega), r4 8 (by omega), sA_row (S := S) (show 5 + 3 * i ≠ 6 + 3 * l by omega)]
          refine ⟨p1, p2, p3, p4, fun u hu => ?_, p6⟩
          obtain ⟨s1', s2', s3', s4'⟩ := p5 u hu
          refine ⟨fun v hv => ?_, ?_, ?_, ?_⟩
          · rw [r8 u v hu hv, r9 u v hu hv]
            by_cases c : i = l ∧ u = t ∧ v = j
            · rw [if_pos c, if_pos c]
            · rw [if_neg c, if_neg c]; exact s1' v hv
          · have q := r9 u 0 hu (by omega)
            rw [Nat.add_zero] at q
            rw [q]
            by_cases c : i = l ∧ u = t ∧ 0 = j
            · rw [if_pos c]
              rw [if_neg (by omega), if_pos c.2.2.symm] at hrg
              exact hrg
            · rw [if_neg c]; exact s2'
          · rw [r9 u 1 hu (by omega)]
            by_cases c : i = l ∧ u = t ∧ 1 = j
            · rw [if_pos c]
              rw [if_neg (by omega), if_neg (by omega)] at hrg
              exact hrg
            · rw [if_neg c]; exact s3'
          · rw [r9 u 2 hu (by omega)]
            by_cases c : i = l ∧ u = t ∧ 2 = j
            · rw [if_pos c]
              rw [if_pos (by omega), if_neg (by omega)] at hrg
              exact hrg
            · rw [if_neg c]; exact s4') (by rw [sA_row (by omega)]; exact hlo)
        rw [e1', e2']
        simp only [Option.bind_some]
        rw [show (sI T 0 0).2.1 9 (3 * (3 * l + t) + j) = T.2.1 9 (3 * (3 * l + t) + j) from rfl, hp]
        exact ⟨_, _, _, rfl, rfl, e3'⟩
      · rw [g1]
        simp only [Option.bind_some, b00, if_true]
        refine ⟨-1, S, sI T 0 0, rfl, ?_, hR.thr 0⟩
        rcases g2 with g2 | ⟨g2, g3⟩
        · rw [g2]; rfl
        · rw [g2]
          simp only [Option.bind_some, b10, if_false]
          have hx : ∀ (f : Int32 → Option (Int32 × St)), ((if a3 = 2 then (some 0) else (some 1) : Option (Int64)).bind (fun q13 => ((if a3 = 0 then (some 40) else (some 9) : Option (Int64))).bind (fun q16 => (m_X9_in (sI T 0 0) a4.toInt64 q13 q16).bind f))) = f 0 := fun f => by
            have : ((if a3 = 2 then (some 0) else (some 1) : Option (Int64)).bind (fun q13 => ((if a3 = 0 then (some 40) else (some 9) : Option (Int64))).bind (fun q16 => (m_X9_in (sI T 0 0) a4.toInt64 q13 q16).bind f))) = (((if a3 = 2 then (some 0) else (some 1) : Option (Int64)).bind (fun q13 => ((if a3 = 0 then (some 40) else (some 9) : Option (Int64))).bind (fun q16 => m_X9_in (sI T 0 0) a4.toInt64 q13 q16)))).bind f := by
              simp only [Option.bind_assoc]
            rw [this, g3]; rfl
          rw [hx]
          rfl
    · rw [f1, f2]
      exact ⟨-1, _, _, rfl, rfl, hR.thr 0⟩
  · rw [e1, e2]
    exact ⟨-1, _, _, rfl, rfl, hR.thr 0⟩
