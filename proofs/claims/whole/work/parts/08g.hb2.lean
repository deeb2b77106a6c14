/-! ===== layer B: order, place ===== -/
theorem EqT.wt {T T' : St} (h : EqT T T') : wt T' = wt T := by
  funext l
  show decide (¬ T'.2.1 11 (3 + 10 * l + 0) ≤ 0 ∧ T'.2.1 11 (3 + 10 * l + 1) = 0) = decide (¬ T.2.1 11 (3 + 10 * l + 0) ≤ 0 ∧ T.2.1 11 (3 + 10 * l + 1) = 0)
  rw [h.2.2.1]
theorem EqT.key {T T' : St} (h : EqT T T') : key T' = key T := by
  funext l
  show 100 * (T'.2.1 11 (3 + 10 * l + 0)).toInt + (T'.2.1 5 l).toInt = 100 * (T.2.1 11 (3 + 10 * l + 0)).toInt + (T.2.1 5 l).toInt
  rw [h.2.2.1, h.2.1 5 (by omega) (by omega)]
theorem EqT.pke {T T' : St} (h : EqT T T') : pkk T' = pkk T := by
  funext l
  unfold pkk sm mt
  rw [h.2.2.1, h.2.1 5 (by omega) (by omega), h.2.1 4 (by omega) (by omega)]
theorem order_L8 {k : Nat} {S0 T : St} (hv : VR 30 25 k S0 T) : ∀ d i n S t, i + d = k → d + 9 ≤ n → EqS S0 S → S.1 0 = nI t →
    ∃ S', m_X8_order_L7 n S (nI i) = some S' ∧ EqS S0 S' ∧ S'.2.2.2 = S.2.2.2 ∧ S'.1 0 = nI (t + cntR (wt T) i d) ∧ (∀ j, i ≤ j → j < k → wt T j = true → S'.2.2.1 58 (rnk k (wt T) (key T) j) = (nI j).toInt64) ∧ (∀ x, (∀ j, i ≤ j → j < k → wt T j = true → rnk k (wt T) (key T) j ≠ x) → S'.2.2.1 58 x = S.2.2.1 58 x) := by
  intro d
  induction d with
  | zero =>
    intro i n S t hi hn hS et
    obtain ⟨m, rfl⟩ : ∃ m, n = m + 1 := ⟨n - 1, by omega⟩
    have hk := hv.1
    refine ⟨S, ?_, hS, rfl, et, fun j h1 h2 => absurd h1 (by omega), fun x _ => rfl⟩
    unfold m_X8_order_L7
    rw [show S.1 30 = nI k from (hv.congr hS (EqT.rfl T)).size, if_pos (by rw [leN (by omega) (by omega)]; omega)]
  | succ d ih =>
    intro i n S t hi hn hS et
    obtain ⟨m, rfl⟩ : ∃ m, n = m + 1 := ⟨n - 1, by omega⟩
    have hk := hv.1
    have hi' : i < k := by omega
    have hv' := hv.congr hS (EqT.rfl T)
    unfold m_X8_order_L7
    rw [show S.1 30 = nI k from hv'.size, if_neg (by rw [leN (by omega) (by omega)]; omega), hv'.waits hi', ckN (by omega) (by omega), clN (by omega), show S.2.1 26 i = mt T i 0 from (hv'.cell hi').1, sooner_rnk hv' hi' (by omega), s1]
    have hr := rnk_lt_k (w := wt T) (ky := key T) hi'
    by_cases c1 : wt T i = true
    · simp only [c1, if_true, Option.bind_some, b10, if_false, nmE]
      rw [ckN (by omega) (by omega), clN (by omega)]
      obtain ⟨S', e1, e2, e3, e4, e5, e6⟩ := ih (i + 1) m (sI (sJ S 58 (rnk k (wt T) (key T) i) (nI i).toInt64) 0 ((sJ S 58 (rnk k (wt T) (key T) i) (nI i).toInt64).1 0 + 1)) (t + 1) (by omega) (by omega) (EqS.told (EqS.tell hS _ _) _) (by show S.1 0 + 1 = _; rw [et, s1])
      refine ⟨S', e1, e2, e3, ?_, ?_, ?_⟩
      · rw [e4]
        show _ = nI (t + ((if wt T i = true then 1 else 0) + cntR (wt T) (i + 1) d))
        rw [if_pos c1]; congr 1; omega
      · intro j h1 h2 h3
        by_cases cj : j = i
        · subst cj
          rw [e6]
          · show (sJ S 58 (rnk k (wt T) (key T) j) (nI j).toInt64).2.2.1 58 (rnk k (wt T) (key T) j) = _
            rw [sJ_221, if_pos rfl, if_pos rfl]
          · intro x hx1 hx2 hx3 hx4
            have := rnk_inj hv.inj hx2 hi' hx3 c1 hx4
            omega
        · exact e5 j (by omega) h2 h3
      · intro x hx
        rw [e6 x (fun j h1 h2 h3 => hx j (by omega) h2 h3)]
        show (sJ S 58 (rnk k (wt T) (key T) i) (nI i).toInt64).2.2.1 58 x = _
        rw [sJ_221, if_pos rfl, if_neg]
        exact fun q => hx i (by omega) hi' c1 q.symm
    · have c2 : wt T i = false := by simpa using c1
      simp only [c2, Bool.false_eq_true, if_false, Option.bind_some, b00, if_true]
      obtain ⟨S', e1, e2, e3, e4, e5, e6⟩ := ih (i + 1) m S t (by omega) (by omega) hS et
      refine ⟨S', e1, e2, e3, ?_, ?_, ?_⟩
      · rw [e4]
        show _ = nI (t + ((if wt T i = true then 1 else 0) + cntR (wt T) (i + 1) d))
        rw [if_neg c1]; congr 1; omega
      · intro j h1 h2 h3
        by_cases cj : j = i
        · subst cj; exact absurd h3 c1
        · exact e5 j (by omega) h2 h3
      · intro x hx
        exact e6 x (fun j h1 h2 h3 => hx j (by omega) h2 h3)
theorem order9_step {k : Nat} {S T0 : St} (hv : VR 30 25 k S T0) : ∀ n T i nn, EqT T0 T → 7 ≤ n → nn < k → i ≤ k → m_X9_order_L22 (n + 1) T (nI nn) (nI i) = if k ≤ i then some T else if wt T0 i = true ∧ rnk k (wt T0) (key T0) i = nn then (m_X9_notes T (nI i).toInt64).bind (fun r => m_X9_order_L22 n r (nI nn) (nI (i + 1))) else m_X9_order_L22 n T (nI nn) (nI (i + 1)) := by
  intro n T i nn hT hn hnn hi
  have hk := hv.1
  have hv' := hv.congrT hT
  have hr := hv'.rt
  conv => lhs; unfold m_X9_order_L22
  rw [hr.2.1]
  by_cases c : k ≤ i
  · rw [if_pos (by rw [leN (by omega) (by omega)]; omega), if_pos c]
  · have hi' : i < k := by omega
    have hrk := rnk_lt_k (w := wt T0) (ky := key T0) hi'
    rw [if_neg (by rw [leN (by omega) (by omega)]; omega), if_neg c, still_eq hr hi', calledAhead_eq hr hi' hn, hT.wt, hT.key, s1]
    by_cases c1 : wt T0 i = true
    · simp only [c1, if_true, Option.bind_some, b10, if_false, true_and]
      rw [ifeqN (by omega) (by omega)]
    · have c2 : wt T0 i = false := by simpa using c1
      simp only [c2, Bool.false_eq_true, if_false, Option.bind_some, b00, if_true, false_and]
/-- order -/
theorem hb_10 (n : Nat) (hn : 100 ≤ n) : HB_10 n RelB := by
  intro S oF oP T hR
  obtain ⟨hf, hro, k, hc⟩ := id hR
  have hT1 : EqT T (sI (sI T 0 0) 1 0) := EqT.rfl T
  have hv := hc.vr.congrT hT1
  have hk := hv.1
  unfold m_X8_order m_X9_order
  simp only [nmE]
  obtain ⟨S', e1, e2, e3, e4, e5, e6⟩ := order_L8 hv k 0 n (sI S 0 0) 0 (by omega) (by omega) (EqS.told (EqS.rfl S) 0) rfl
  obtain ⟨T', f1, f2, f3, f4⟩ := rank_outer (c := 7) (O := m_X9_order_L12) hk hv.inj (order9_step hv) (by
    intro n T2 i hT2 hi
    conv => lhs; unfold m_X9_order_L12
    rw [(hv.congrT hT2).2.1, ifleN (by omega) (by omega), s1]) k 0 n (sI (sI T 0 0) 1 0) (by omega) (by omega) (EqT.rfl _) (by
      have h0 := below_le hv.inj (w := wt (sI (sI T 0 0) 1 0)) 0
      rw [show below k (wt (sI (sI T 0 0) 1 0)) (key (sI (sI T 0 0) 1 0)) 0 = 0 by omega]; rfl) (fun j _ _ h => absurd h (by omega))
  rw [show (0 : Int32) = nI 0 from rfl] at *
  rw [e1, f1]
  have hcnt := cntR_le (wt (sI (sI T 0 (nI 0)) 1 (nI 0))) k 0
  refine ⟨S'.1 0, S', T', rfl, ?_, ⟨?_, ?_, ?_⟩, ?_, k, hc.congr e2 (hT1.trans f2)⟩
  · show some (T'.1 1, T') = _
    rw [f3, e4, Nat.zero_add]
  · show (oF = none ∧ S'.2.2.2 2 = none) ∨ _
    rw [e3]; exact hf.1
  · rw [e3]; exact hf.2.1
  · rw [e3]; exact hf.2.2
  · refine ⟨_, ?_, e4, ?_, ?_⟩
    · omega
    · rw [f3, Nat.zero_add]
    · intro x hx
      obtain ⟨j, h1, h2, h3⟩ := rnk_onto hv.inj (w := wt (sI (sI T 0 (nI 0)) 1 (nI 0))) (x := x) (by omega)
      rw [← h3, e5 j (by omega) h1 h2, f4 j h1 h2]
theorem places_L8 {k : Nat} {S0 T : St} (hv : VR 30 25 k S0 T) : ∀ d i n S, i + d = k → d + 9 ≤ n → EqS S0 S →
    ∃ S', m_X8_tellPlaces_L2 n S (nI i) = some S' ∧ EqS S0 S' ∧ S'.2.2.2 = S.2.2.2 ∧ (∀ j, i ≤ j → j < k → S'.2.2.1 58 (rnk k tru (pkk T) j) = (nI j).toInt64) ∧ (∀ x, (∀ j, i ≤ j → j < k → rnk k tru (pkk T) j ≠ x) → S'.2.2.1 58 x = S.2.2.1 58 x) := by
  intro d
  induction d with
  | zero =>
    intro i n S hi hn hS
    obtain ⟨m, rfl⟩ : ∃ m, n = m + 1 := ⟨n - 1, by omega⟩
    have hk := hv.1
    refine ⟨S, ?_, hS, rfl, fun j h1 h2 => absurd h1 (by omega), fun x _ => rfl⟩
    unfold m_X8_tellPlaces_L2
    rw [show S.1 30 = nI k from (hv.congr hS (EqT.rfl T)).size, if_pos (by rw [leN (by omega) (by omega)]; omega)]
  | succ d ih =>
    intro i n S hi hn hS
    obtain ⟨m, rfl⟩ : ∃ m, n = m + 1 := ⟨n - 1, by omega⟩
    have hk := hv.1
    have hi' : i < k := by omega
    have hv' := hv.congr hS (EqT.rfl T)
    have hr := rnk_lt_k (w := tru) (ky := pkk T) hi'
    unfold m_X8_tellPlaces_L2
    rw [show S.1 30 = nI k from hv'.size, if_neg (by rw [leN (by omega) (by omega)]; omega), placeOf8 hv' hi' (by omega), s1]
    simp only [Option.bind_some, nmE]
    rw [ckN (by omega) (by omega), clN (by omega)]
    obtain ⟨S', e1, e2, e3, e5, e6⟩ := ih (i + 1) m (sJ S 58 (rnk k tru (pkk T) i) (nI i).toInt64) (by omega) (by omega) (EqS.tell hS _ _)
    refine ⟨S', e1, e2, e3, ?_, ?_⟩
    · intro j h1 h2
      by_cases cj : j = i
      · subst cj
        rw [e6]
        · show (sJ S 58 (rnk k tru (pkk T) j) (nI j).toInt64).2.2.1 58 (rnk k tru (pkk T) j) = _
          rw [sJ_221, if_pos rfl, if_pos rfl]
        · intro x hx1 hx2 hx4
          have := rnk_inj hv.pinj hx2 hi' (w := tru) rfl rfl hx4
          omega
      · exact e5 j (by omega) h2
    · intro x hx
      rw [e6 x (fun j h1 h2 => hx j (by omega) h2)]
      show (sJ S 58 (rnk k tru (pkk T) i) (nI i).toInt64).2.2.1 58 x = _
      rw [sJ_221, if_pos rfl, if_neg]
      exact fun q => hx i (by omega) hi' q.symm
theorem places9_step {k : Nat} {S T0 : St} (hv : VR 30 25 k S T0) : ∀ n T i nn, EqT T0 T → 7 ≤ n → nn < k → i ≤ k → m_X9_entersPlaces_L17 (n + 1) T (nI nn) (nI i) = if k ≤ i then some T else if tru i = true ∧ rnk k tru (pkk T0) i = nn then (m_X9_notes T (nI i).toInt64).bind (fun r => m_X9_entersPlaces_L17 n r (nI nn) (nI (i + 1))) else m_X9_entersPlaces_L17 n T (nI nn) (nI (i + 1)) := by
  intro n T i nn hT hn hnn hi
  have hk := hv.1
  have hv' := hv.congrT hT
  conv => lhs; unfold m_X9_entersPlaces_L17
  rw [hv'.2.1]
  by_cases c : k ≤ i
  · rw [if_pos (by rw [leN (by omega) (by omega)]; omega), if_pos c]
  · have hi' : i < k := by omega
    have hrk := rnk_lt_k (w := tru) (ky := pkk T0) hi'
    rw [if_neg (by rw [leN (by omega) (by omega)]; omega), if_neg c, aheadOf9 hv'.pt hi' hn, hT.pke, s1]
    simp only [Option.bind_some]
    rw [ifeqN (by omega) (by omega)]
    simp only [tru, true_and]
/-- both tell the places -/
theorem tellPlaces_same {k n n' : Nat} {S T : St} (hv : VR 30 25 k S T) (hn : 50 ≤ n) (hn' : 50 ≤ n') : ∃ S' T', m_X8_tellPlaces n S = some S' ∧ m_X9_entersPlaces n' T = some T' ∧ EqS S S' ∧ S'.2.2.2 = S.2.2.2 ∧ EqT T T' ∧ RowR S' T' := by
  have hk := hv.1
  have hT1 : EqT T (sI T 1 0) := EqT.rfl T
  have hv1 := hv.congrT hT1
  obtain ⟨S', e1, e2, e3, e5, e6⟩ := places_L8 hv k 0 n S (by omega) (by omega) (EqS.rfl S)
  obtain ⟨T', f1, f2, f3, f4⟩ := rank_outer (c := 7) (w := tru) (O := m_X9_entersPlaces_L7) hk hv1.pinj (places9_step hv1) (by
    intro n T2 i hT2 hi
    conv => lhs; unfold m_X9_entersPlaces_L7
    rw [(hv1.congrT hT2).2.1, ifleN (by omega) (by omega), s1]) k 0 n' (sI T 1 0) (by omega) (by omega) (EqT.rfl _) (by
      have h0 := below_le hv1.pinj (w := tru) 0
      rw [show below k tru (pkk (sI T 1 0)) 0 = 0 by omega]; rfl) (fun j _ _ h => absurd h (by omega))
  have hcnt : cntR tru 0 k = k := cntR_all k 0 (fun _ _ _ => rfl)
  have hs : S'.1 30 = nI k := (hv.congr e2 (EqT.rfl T)).size
  refine ⟨sI S' 0 (nI k), T', ?_, ?_, EqS.told e2 _, e3, f2, ?_⟩
  · unfold m_X8_tellPlaces
    rw [show m_X8_tellPlaces_L2 n S 0 = some S' from e1]
    simp only [Option.bind_some, nmE]
    rw [hs]
  · unfold m_X9_entersPlaces
    simp only [nmE]
    rw [show m_X9_entersPlaces_L7 n' (sI T 1 0) 0 = some T' from f1]
    rfl
  · refine ⟨k, by omega, rfl, by rw [f3, hcnt], ?_⟩
    intro x hx
    obtain ⟨j, h1, h2, h3⟩ := rnk_onto hv1.pinj (w := tru) (x := x) (by omega)
    show S'.2.2.1 58 x = _
    rw [← h3, f4 j h1 h2]
    exact e5 j (by omega) h1
/-- place -/
theorem hb_14 (n : Nat) (hn : 100 ≤ n) : HB_14 n RelB := by
  intro S oF oP T a1 hR
  obtain ⟨hf, hro, k, hc⟩ := id hR
  have hv := hc.vr.congrT (EqT.thr T 0)
  have hk := hv.1
  unfold m_X8_place m_X9_place
  simp only [nmE]
  rcases isL hv a1 with ⟨l, hl, rfl, e1, e2⟩ | ⟨e1, e2⟩
  · rw [e1, e2]
    simp only [Option.bind_some, b10, if_false]
    obtain ⟨S', T', f1, f2, f3, f4, f5, f6⟩ := tellPlaces_same hv (n := n) (n' := n) (by omega) (by omega)
    have hv' := hv.congr f3 f5
    rw [f1, f2]
    simp only [Option.bind_some]
    rw [placeOf8 hv' hl (by omega), aheadOf9 hv'.pt hl (by omega)]
    refine ⟨_, S', T', rfl, rfl, ⟨?_, ?_, ?_⟩, f6, k, hc.congr f3 ((EqT.thr T 0).trans f5)⟩
    · rw [f4]; exact hf.1
    · rw [f4]; exact hf.2.1
    · rw [f4]; exact hf.2.2
  · rw [e1, e2]
    exact ⟨-1, _, _, rfl, rfl, hR.thr 0⟩
