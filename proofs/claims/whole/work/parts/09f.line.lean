/-! ===== layer B: line, all lifts ===== -/
/-- what the reference reads as a lift of the line begins -/
def Rd (T : St) (l t lift0 r0 L0 f b : Nat) : Prop := (t = lift0 → ∀ X, EqT T X → m_X9_roundOf X (nI l) = some (nI r0) ∧ m_X9_leastOf X (nI l) = some (nI L0) ∧ m_X9_of X (nI l) 4 = some (nI f) ∧ m_X9_of X (nI l) (7 + nI t) = some (nI b)) ∧ (t ≠ lift0 → r0 = 0 ∧ L0 = 1 ∧ f = 0 ∧ b = 0)
theorem line82_step {T0 T T1 : St} {l t lift0 r0 L0 f b s g n : Nat} (ht : t < 3) (hl0 : lift0 ≤ 3) (hR : Rd T0 l t lift0 r0 L0 f b) (hE : EqT T0 T1) (hB : m_X9_laysBehind n T (nI l) (nI t) = some T1) : m_X9_line_L82 (n + 1) T (nI l) (nI g) (nI lift0) (nI s) (nI t) = (m_X9_follows_L15 n T1 (nI l) (nI t) (nI s) (nI g) (nI L0) (nI f) (nI b) (nI r0)).bind (fun q => if q.2 = 0 then (some (q.1.1 1, q.1)) else (m_X9_line_L82 n q.1 (nI l) (nI g) (nI lift0) (nI s + q.2) (nI (t + 1)))) := by
  conv => lhs; unfold m_X9_line_L82
  rw [lit32 3, if_neg (show ¬ nI 3 ≤ nI t by rw [leN (by omega) (by omega)]; omega), hB, Option.bind_some]
  have hfo : ∀ r L f b : Int32, m_X9_follows n T1 (nI l) (nI t) r L f b (nI s) (nI g) = (m_X9_follows_L15 n T1 (nI l) (nI t) (nI s) (nI g) L f b r).bind (fun q1 => some (q1.2, q1.1)) := fun r L f b => rfl
  by_cases c : t = lift0
  · obtain ⟨z1, z2, z3, z4⟩ := hR.1 c T1 hE
    rw [if_pos (show nI t = nI lift0 by rw [c]), Option.bind_some, if_neg (show ¬ (1 : Int32) = 0 by decide), z1, Option.bind_some, Option.bind_some, if_neg (show ¬ (1 : Int32) = 0 by decide), z2, Option.bind_some, Option.bind_some, if_neg (show ¬ (1 : Int32) = 0 by decide), z3, Option.bind_some, Option.bind_some, if_neg (show ¬ (1 : Int32) = 0 by decide), z4, Option.bind_some, Option.bind_some, hfo, Option.bind_assoc, s1]
    rfl
  · obtain ⟨rfl, rfl, rfl, rfl⟩ := hR.2 c
    rw [if_neg (show ¬ nI t = nI lift0 by rw [eqN (by omega) (by omega)]; exact c), Option.bind_some, if_pos rfl, Option.bind_some, if_pos rfl, Option.bind_some, if_pos rfl, Option.bind_some, if_pos rfl, Option.bind_some, hfo, Option.bind_assoc, s1]
    rfl
theorem l66_skip {m : Nat} {S1 S2 F : St} {g i : Int32} (hi : ¬ 9 ≤ i) {v : Int32} (h1 : m_X5_findTry m S1 = some (v, S2)) (h2 : m_X5_findTry m S2 = some (v, S2)) : m_X8_line_L66 (m + 1) S1 F g i = m_X8_line_L66 (m + 1) S2 F g i := by
  unfold m_X8_line_L66
  rw [if_neg hi, if_neg hi, h1, h2]
theorem l66_stop {m i : Nat} {S1 S2 F : St} {g : Int32} (hi : i ≤ 9) (h1 : m_X5_findTry m S1 = some (nI 0, S2)) : m_X8_line_L66 (m + 1) S1 F g (nI i) = some (if 9 ≤ i then S1 else S2, F) := by
  unfold m_X8_line_L66
  rw [lit32 9, ifleN (by omega) (by omega), h1, Option.bind_some, if_pos (show nI 0 = 0 from rfl)]
  by_cases c : 9 ≤ i
  · rw [if_pos c, if_pos c]
  · rw [if_neg c, if_neg c]
theorem lifts_L {k l lift0 g : Nat} {S0 T0 : St} {W tp : Nat → Nat} (hg : g = 0 ∨ g = 1) (hv : VR 30 25 k S0 T0) (hl : l < k) (hl0 : lift0 ≤ 3) (h28 : ∀ x, x ≤ 120 → T0.2.1 28 x = nI (W x)) (hWle : ∀ x, x ≤ 120 → W x ≤ 1000000) :
    ∀ e t s b f j L r0 L0 i n n' S F T, t + e = 3 → 1 ≤ e → lift0 ≤ t → s ≤ 40 * t → Rd T0 l t lift0 r0 L0 f b → NowS S 0 t s b f j L → (1 ≤ j → r0 + j = 3 ∧ L0 = L) → (j = 0 → 3 ≤ r0 ∨ L0 = 0) → r0 ≤ 3 → L0 ≤ 41 → b ≤ 40 → f ≤ 3 → j ≤ 3 → FI k l T0 W (W 0) tp F → FrJ T0 T → Told S T i → i + 3 * e ≤ 9 → 10 * e + 240 ≤ n → e + 310 ≤ n' →
      ∃ S' F' T' i', m_X8_line_L66 n S F (nI g) (nI i) = some (S', F') ∧ m_X9_line_L82 n' T (nI l) (nI g) (nI lift0) (nI s) (nI t) = some (nI i', T') ∧ FrZ S S' ∧ FrJ T0 T' ∧ Told S' T' i' ∧ i' ≤ 9 := by
  intro e
  induction e with
  | zero => intro t s b f j L r0 L0 i n n' S F T _ h; omega
  | succ e ih =>
    intro t s b f j L r0 L0 i n n' S F T hte _ hlt hs hRd hN hj1 hj0 hr3 hL41 hb40 hf3 hj3 hF hJ hTo hi9 hn hn'
    obtain ⟨m', rfl⟩ : ∃ m, n' = m + 1 := ⟨n' - 1, by omega⟩
    have ht : t < 3 := by omega
    have hod : odN T l = odN T0 l := odN_eqT hJ.1 l
    have hvT := hv.congrT hJ.1
    obtain ⟨T1, a1, a2, a3⟩ := behind9 (n := m') (W := W) hvT hl ht (fun x hx => by rw [hJ.2]; exact h28 x hx) hWle (by omega)
    rw [hod] at a3
    have hJ1 : FrJ T0 T1 := hJ.trans a2.fj
    have hTo1 : Told S T1 i := ⟨hTo.1, by rw [a2.1 1 (by omega)]; exact hTo.2.1, fun x hx => by rw [a2.2.2]; exact hTo.2.2 x hx⟩
    have hNL : j = 0 → NowS S 0 t s b f j L0 := fun q => by
      obtain ⟨z1, z2, z3⟩ := hN
      refine ⟨z1, z2, fun w => ?_⟩
      obtain ⟨y1, y2, y3, y4, y5⟩ := z3 w
      refine ⟨y1, y2, y3, y4, fun w2 => ?_⟩
      obtain ⟨x1, x2, x3, x4, x5, x6, x7⟩ := y5 w2
      exact ⟨x1, x2, x3, x4, x5, x6, fun w3 => by omega⟩
    have hN0 : NowS S 0 t s b f j L0 := by
      by_cases c : 1 ≤ j
      · rw [(hj1 c).2]; exact hN
      · exact hNL (by omega)
    obtain ⟨S1, F1, T2, b', f', j', L', i', g1, g2, g3, g4, g5, g6, g7, g8, g9, g10, g11, g12⟩ := foll_L hg hv hl ht hs hWle j b f L0 r0 i n m' S F T1 hN0 hF hJ1 (by rw [hJ1.2]; exact h28 0 (by omega)) a3 hTo1 (by omega) (by omega) (by omega) (fun q => (hj1 q).1) hj0 hr3 hL41 hb40 hf3
    obtain ⟨m, hm⟩ : ∃ m, n - (i' - i) = m + 1 := ⟨n - (i' - i) - 1, by omega⟩
    obtain ⟨S2, o2, t2, s2', b2, f2, j2, L2, c1, c2, c3, c4, c5⟩ := find8 (n := m) g6 (by omega)
    have hnot : ¬ ((0 : Nat) = 1 ∨ 3 ≤ t ∨ (1 ≤ j' ∧ L' ≤ 40)) := by omega
    rw [line82_step ht hl0 hRd hJ1.1 a1, g2, Option.bind_some, if0N (by omega), g1, hm]
    have hTo2 : ∀ X, FrW S1 X → Told X T2 i' := fun X hX => ⟨by rw [hX.1 0 (by omega)]; exact g11.1, g11.2.1, fun x hx => by rw [hX.2]; exact g11.2.2 x hx⟩
    have hstop : (o2 = 1 ∨ 3 ≤ t2) → ∃ S' F', m_X8_line_L66 (m + 1) S1 F1 (nI g) (nI i') = some (S', F') ∧ FrZ S S' ∧ Told S' T2 i' := fun q => by
      have hz : nI (if o2 = 0 ∧ t2 < 3 then 1 else 0) = nI 0 := by rw [if_neg (by have := c3.2.1; omega)]
      rw [hz] at c1
      rw [l66_stop (by omega) c1]
      by_cases c9 : 9 ≤ i'
      · rw [if_pos c9]; exact ⟨S1, F1, rfl, g5, g11⟩
      · rw [if_neg c9]; exact ⟨S2, F1, rfl, g5.trans c2.fz, hTo2 S2 c2⟩
    by_cases cb : b' = 0
    · rw [if_pos cb]
      have ho2 : o2 = 1 := by
        rcases c5 with ⟨z, _⟩ | ⟨_, _, z⟩ | ⟨_, z, _⟩
        · exact absurd z hnot
        · exact z
        · exact absurd cb z
      obtain ⟨S', F', h1, h2, h3⟩ := hstop (Or.inl ho2)
      exact ⟨S', F', T2, i', h1, by rw [g11.2.1], h2, g9, h3, by omega⟩
    · rw [if_neg cb, nI_add]
      obtain ⟨ho2, ht2, hs2, hb2, hf2, hj2, hL2⟩ : o2 = 0 ∧ t2 = t + 1 ∧ s2' = s + b' ∧ b2 = 0 ∧ f2 = 0 ∧ j2 = 3 ∧ L2 = 1 := by
        rcases c5 with ⟨z, _⟩ | ⟨_, z, _⟩ | ⟨_, _, z⟩
        · exact absurd z hnot
        · exact absurd z cb
        · exact z
      subst ho2 ht2 hs2 hb2 hf2 hj2 hL2
      by_cases ct : t + 1 < 3
      · have hz : nI (if (0 : Nat) = 0 ∧ t + 1 < 3 then 1 else 0) = nI 1 := by rw [if_pos ⟨rfl, ct⟩]
        rw [hz] at c1
        have c1' : m_X5_findTry m S2 = some (nI 1, S2) := by
          obtain ⟨q, rfl⟩ : ∃ q, m = q + 1 := ⟨m - 1, by omega⟩
          unfold m_X5_findTry
          rw [find_stop c3 c4 0, Option.bind_some, hasTry8 c3, if_pos ⟨rfl, ct, by omega, by omega⟩, Option.bind_some]
          rfl
        rw [l66_skip (show ¬ 9 ≤ nI i' by rw [lit32 9, leN (by omega) (by omega)]; omega) c1 c1']
        obtain ⟨S', F', T', i2, h1, h2, h3, h4, h5, h6⟩ := ih (t + 1) (s + b') 0 0 3 1 0 1 i' (m + 1) m' S2 F1 T2 (by omega) (by omega) (by omega) (by omega) ⟨fun q => absurd q (by omega), fun _ => ⟨rfl, rfl, rfl, rfl⟩⟩ c3 (fun _ => ⟨rfl, rfl⟩) (fun q => absurd q (by omega)) (by omega) (by omega) (by omega) (by omega) (by omega) g8 g9 (hTo2 S2 c2) (by omega) (by omega) (by omega)
        exact ⟨S', F', T', i2, h1, h2, (g5.trans c2.fz).trans h3, h4, h5, h6⟩
      · obtain ⟨S', F', h1, h2, h3⟩ := hstop (Or.inr (by omega))
        refine ⟨S', F', T2, i', h1, ?_, h2, g9, h3, by omega⟩
        obtain ⟨q, rfl⟩ : ∃ q, m' = q + 1 := ⟨m' - 1, by omega⟩
        unfold m_X9_line_L82
        rw [lit32 3, if_pos (show nI 3 ≤ nI (t + 1) by rw [leN (by omega) (by omega)]; omega), g11.2.1]
def lineT (n : Nat) (S F : St) (p0 g : Int32) : Option (Int32 × St × St) := (m_X5_look S p0).bind (fun r11 => nm (sI r11 0 0) (fun S13 => (m_X8_line_L66 n S13 F g 0).bind (fun q15 => some (q15.1.1 0, q15.1, q15.2))))
def lineR (n : Nat) (T : St) (p0 g : Int32) : Option (Int32 × St) := nm (sI T 1 0) (fun T12 => (m_X9_isOut T12 p0).bind (fun r14 => if r14 = 0 then ((m_X9_isOver T12).bind (fun r17 => if r17 = 0 then (ck 0 63 ((m_X9_sumAhead n T12 p0).bind (fun r21 => m_X9_line_L82 n T12 p0 g (T12.2.1 11 ((0 : Int32).toNatClampNeg)) r21 (T12.2.1 11 ((0 : Int32).toNatClampNeg))))) else (some (0, T12)))) else (some (0, T12))))
theorem lineR9 {k l n g lift round a d f o L : Nat} {bb : Nat → Nat} {S T : St} {W : Nat → Nat} (hg : g = 0 ∨ g = 1) (hv : VR 30 25 k S T) (hl : l < k) (hN : Now T l lift round a d f o bb) (hL : a ≠ 0 → lst T l = nI L ∧ 1 ≤ L ∧ L ≤ 41) (hn : 400 ≤ n) (h28 : ∀ x, x ≤ 120 → T.2.1 28 x = nI (W x)) (hWle : ∀ x, x ≤ 120 → W x ≤ 1000000) :
    ∀ (SX F : St) (tp : Nat → Nat), EqS S SX → FI k l T W (W 0) tp F → ∃ S' F' T' i, lineT n SX F (nI l) (nI g) = some (nI i, S', F') ∧ lineR n T (nI l) (nI g) = some (nI i, T') ∧ FrZ SX S' ∧ EqT T T' ∧ Told S' T' i ∧ i ≤ 9 := by
  intro SX F tp hE hF
  have hk := hv.1
  have hvX := hv.congr hE (EqT.rfl T)
  have hleft := hN.left3
  obtain ⟨h1, h2, h3, h4, h5, h6, h7, h8, h9, h10, h11, h12, h13, h14, h15, h16, h17⟩ := id hN
  have hsb := sB_le (fun t ht => (h13 t ht).2) lift h1
  obtain ⟨S1, b1, b2, b3, b4, b5, b6, b7, b8, b9, b10, b11⟩ := look8 hvX hl hN
  have hz0 : ∀ i, i ≠ 0 → (sI S1 0 0).1 i = S1.1 i := fun i hi => sI_ne hi
  have hNS := nowS_of (e := 0) (S := sI S1 0 0) hv hl hN hL (by omega) (by rw [hz0 50 (by omega)]; exact b4) (by rw [hz0 51 (by omega)]; exact b5) (fun q => by rw [hz0 52 (by omega), b6, if_neg (by omega), Nat.add_zero]) (by rw [hz0 53 (by omega)]; exact b7) (by rw [hz0 54 (by omega)]; exact b8) (by rw [hz0 56 (by omega)]; exact b10) (by rw [hz0 57 (by omega)]; exact b11)
  have hZ : FrZ SX (sI S1 0 0) := ⟨fun i q1 q2 => by rw [hz0 i q1]; exact b2 i q2, by show S1.2.1 = _; rw [b3], by show S1.2.2.2 = _; rw [b3]⟩
  have hT12 : EqT T (sI T 1 0) := EqT.rfl T
  have hTo : Told (sI S1 0 0) (sI T 1 0) 0 := ⟨rfl, rfl, fun x hx => absurd hx (by omega)⟩
  have hz : (if mt (sI T 1 0) l 6 = 1 then (1 : Int32) else 0) = nI o := by
    rw [show mt (sI T 1 0) l 6 = nI o from h11]
    rcases (by omega : o = 0 ∨ o = 1) with q | q <;> subst q <;> rfl
  have hnone : (o = 1 ∨ 3 ≤ lift) → ∃ S', lineT n SX F (nI l) (nI g) = some (nI 0, S', F) ∧ FrZ SX S' ∧ Told S' (sI T 1 0) 0 := fun q => by
    obtain ⟨m, rfl⟩ : ∃ m, n = m + 1 := ⟨n - 1, by omega⟩
    obtain ⟨q', rfl⟩ : ∃ q', m = q' + 1 := ⟨m - 1, by omega⟩
    have hst : o = 1 ∨ 3 ≤ lift ∨ (1 ≤ leftN round a d ∧ L ≤ 40) := by omega
    have hf1 : m_X5_findTry (q' + 1) (sI S1 0 0) = some (nI 0, sI S1 0 0) := by
      unfold m_X5_findTry
      rw [find_stop hNS hst 0, Option.bind_some, hasTry8 hNS, if_neg (by omega), Option.bind_some]
      rfl
    refine ⟨sI S1 0 0, ?_, hZ, hTo⟩
    unfold lineT
    rw [b1, Option.bind_some, nmE, show m_X8_line_L66 (q' + 1 + 1) (sI S1 0 0) F (nI g) 0 = _ from l66_stop (i := 0) (by omega) hf1, Option.bind_some]
    rfl
  unfold lineR
  rw [nmE, isOut_eq (by omega), hz, Option.bind_some, if0N (by omega)]
  by_cases co : o = 0
  · rw [if_pos co, isOver_eq, show (sI T 1 0).2.1 11 0 = nI lift from h3, Option.bind_some, lit32 3, ifeqN (by omega) (by omega)]
    by_cases cl : lift < 3
    · rw [if_neg (show ¬ lift = 3 by omega), if_pos rfl]
      have hsa : m_X9_sumAhead n (sI T 1 0) (nI l) = some (nI (sB bb lift)) := by
        unfold m_X9_sumAhead
        rw [show m_X9_sumAhead_L4 n (sI T 1 0) (nI l) 0 0 = _ from sumAhead_L (T := sI T 1 0) (by omega) h1 h3 h13 lift 0 n (by omega) (by omega)]
        rfl
      rw [show ∀ x : Option (Int32 × St), ck 0 63 x = x from fun x => rfl, hsa, Option.bind_some, show (0 : Int32).toNatClampNeg = 0 from rfl, show (sI T 1 0).2.1 11 0 = nI lift from h3]
      -- what is read
      obtain ⟨L0, hL0⟩ : ∃ L0, L0 = if a = 0 then 0 else L := ⟨_, rfl⟩
      have hlst : lst T l = nI L0 := by
        rw [hL0]
        by_cases ca : a = 0
        · rw [if_pos ca]; unfold lst; rw [if_pos (by rw [h5, ca]; rfl)]; rfl
        · rw [if_neg ca]; exact (hL ca).1
      have hL041 : L0 ≤ 41 := by
        rw [hL0]
        by_cases ca : a = 0
        · rw [if_pos ca]; omega
        · rw [if_neg ca]; exact (hL ca).2.2
      have hRd : Rd T l lift lift (round + d) L0 f (bb lift) := by
        refine ⟨fun _ X hX => ⟨?_, ?_, ?_, ?_⟩, fun q => absurd rfl q⟩
        · unfold m_X9_roundOf
          rw [show ∀ x : Option Int32, ck 1 63 x = x from fun x => rfl, of1 (by omega), show mt X l 1 = nI d by unfold mt; rw [hX.2.2.1]; exact h7, show (1 : Int32).toNatClampNeg = 1 from rfl, hX.2.2.1, h4, Option.bind_some, nI_add]
        · rw [least9 (hv.congrT hX).rt hl, show lst X l = lst T l by unfold lst its mt; rw [hX.2.2.1], hlst]
        · rw [of4 (by omega), show mt X l 4 = nI f by unfold mt; rw [hX.2.2.1]; exact h9]
        · rw [show (7 : Int32) + nI lift = nI (7 + lift) by rw [lit32 7, nI_add], of_eq (by omega) (by omega), show mt X l (7 + lift) = nI (bb lift) by unfold mt; rw [hX.2.2.1]; exact (h13 lift cl).1]
      have hj1 : 1 ≤ leftN round a d → round + d + leftN round a d = 3 ∧ L0 = L := fun q => by
        have ca : a ≠ 0 := fun z => by unfold leftN at q; rw [if_pos z] at q; omega
        have k1 := (h17 cl ca).1
        refine ⟨?_, by rw [hL0, if_neg ca]⟩
        unfold leftN; rw [if_neg ca]; omega
      have hj0 : leftN round a d = 0 → 3 ≤ round + d ∨ L0 = 0 := fun q => by
        by_cases ca : a = 0
        · right; rw [hL0, if_pos ca]
        · have k1 := (h17 cl ca).1
          unfold leftN at q; rw [if_neg ca] at q; omega
      have hN0 : NowS (sI S1 0 0) 0 lift (sB bb lift) (bb lift) f (leftN round a d) L := by rw [co, Nat.add_zero] at hNS; exact hNS
      obtain ⟨S', F', T', i', g1, g2, g3, g4, g5, g6⟩ := lifts_L (lift0 := lift) (tp := tp) hg hv hl h1 h28 hWle (3 - lift) lift (sB bb lift) (bb lift) f (leftN round a d) L (round + d) L0 0 n n (sI S1 0 0) F (sI T 1 0) (by omega) (by omega) (by omega) hsb hRd hN0 hj1 hj0 (by omega) hL041 (h13 lift cl).2 h10 (hleft cl).2 hF ⟨hT12, rfl⟩ hTo (by omega) (by omega) (by omega)
      rw [g2]
      refine ⟨S', F', T', i', ?_, rfl, hZ.trans g3, g4.1, g5, g6⟩
      unfold lineT
      rw [b1, Option.bind_some, nmE, show m_X8_line_L66 n (sI S1 0 0) F (nI g) 0 = _ from g1, Option.bind_some, g5.1]
    · rw [if_pos (show lift = 3 by omega), if_neg (show ¬ (1 : Int32) = 0 by decide)]
      obtain ⟨S', q1, q2, q3⟩ := hnone (Or.inr (by omega))
      exact ⟨S', F, sI T 1 0, 0, q1, rfl, q2, hT12, q3, by omega⟩
  · rw [if_neg co]
    obtain ⟨S', q1, q2, q3⟩ := hnone (Or.inl (by omega))
    exact ⟨S', F, sI T 1 0, 0, q1, rfl, q2, hT12, q3, by omega⟩
/-- line -/
theorem hb_29 (n : Nat) (hn : 800 ≤ n) : HB_29 n RelB := by
  intro S oF oP T a1 a2 a3 hR hg
  obtain ⟨hf, hro, k, hc⟩ := id hR
  have hv := hc.vr.congrT (EqT.thr T 0)
  have hk := hv.1
  have hc0 := hc.congr (EqS.rfl S) (EqT.thr T 0)
  unfold m_X9_line
  simp only [nmE]
  obtain ⟨g, hg', rfl⟩ : ∃ g : Nat, (g = 0 ∨ g = 1) ∧ a3 = nI g := by
    rcases hg with q | q
    · exact ⟨0, Or.inl rfl, q⟩
    · exact ⟨1, Or.inr rfl, q⟩
  rcases isL hv a1 with ⟨l, hl, rfl, e1, e2⟩ | ⟨e1, e2⟩
  · rw [e2]
    simp only [Option.bind_some, b10, if_false]
    have i0 : Int32.toInt 0 = 0 := rfl
    have i1 : Int32.toInt 1 = 1 := rfl
    have j0 : Int64.toInt 0 = 0 := rfl
    have j1 : Int64.toInt 1 = 1 := rfl
    by_cases cp : 0 ≤ a2.toInt ∧ a2.toInt ≤ 1
    · rw [in_yes (by rw [t64, j0]; exact cp.1) (by rw [t64, j1]; exact cp.2)]
      simp only [Option.bind_some, b10, if_false]
      have hc1 : ¬ a2 < 0 := by rw [lt32, i0]; omega
      have hc2 : a2 ≤ 1 := by rw [le32, i1]; omega
      -- both set the goal
      have hgoal : ∃ (S1 T1 : St) (W : Nat → Nat), ((if a2 = 0 then ((m_X0_beMass n S).bind (fun r32 => some r32)) else ((m_X8_aimToWin n S (nI l)).bind (fun r30 => some r30)) : Option (St))) = some S1 ∧ ((if a2 = 0 then ((m_X9_aimsMass n (sI T 0 0)).bind (fun r54 => some r54)) else ((m_X9_aimsWin n (sI T 0 0) (nI l)).bind (fun r52 => some r52)) : Option (St))) = some T1 ∧ FrD S S1 ∧ S1.1 60 = nI (W 0) ∧ (∀ x, x < 242 → S1.2.1 45 x = nI (W x)) ∧ (∀ x, x < 242 → W x ≤ 1000000) ∧ T1.1 = (sI T 0 0).1 ∧ T1.2.2 = (sI T 0 0).2.2 ∧ (∀ r, (r < 28 ∨ 30 < r) → T1.2.1 r = (sI T 0 0).2.1 r) ∧ (∀ x, x ≤ 120 → T1.2.1 28 x = nI (W x)) := by
        by_cases q : a2 = 0
        · rw [if_pos q, if_pos q]
          obtain ⟨S1, p1, p2, p3, p4⟩ := beMass8 (n := n) (S := S) (by omega)
          obtain ⟨T1, q1, q2, q3, q4, q5⟩ := aimsMass_L 121 0 n (sI T 0 0) (by omega) (by omega) (fun y hy => absurd hy (by omega))
          have hq : m_X9_aimsMass n (sI T 0 0) = some T1 := by
            unfold m_X9_aimsMass
            rw [show m_X9_aimsMass_L2 n (sI T 0 0) 0 = _ from q1]; rfl
          rw [p1, hq]
          exact ⟨S1, T1, fun x => 1000 * x, rfl, rfl, p2.fd, p3, p4, fun x hx => by show 1000 * x ≤ 1000000; omega, q2, q3, fun r hr => q4 r (by omega), q5⟩
        · rw [if_neg q, if_neg q]
          obtain ⟨S1, T1, W, p1, p2, p3, p4, p5, p6, p8, p9, p10, p11⟩ := aimWin_same (n := n) hv hl (by omega)
          rw [p1, p2]
          exact ⟨S1, T1, W, rfl, rfl, p3, p4, p5, fun x _ => p6 x, p8, p9, p10, p11⟩
      obtain ⟨S1, T1, W, p1, p2, hD, h60, hW, hWl, t1, t2, t3, h28⟩ := hgoal
      have hET : EqT (sI T 0 0) T1 := ⟨⟨by rw [t1], by rw [t1], by rw [t1], by rw [t1], by rw [t1]⟩, fun a q1 q2 => t3 a (by omega), t3 11 (by omega), t3 15 (by omega), t3 17 (by omega)⟩
      have hv1 : VR 30 25 k S1 T1 := hv.congr hD.eqs hET
      obtain ⟨lift, round, a, d, f, o, bb, hN⟩ := now_of hv1 hl
      obtain ⟨L, hL⟩ := lstN hv1 hl hN
      have hline := lineR9 (n := n) hg' hv1 hl hN hL (by omega) h28 (fun x hx => hWl x (by omega))
      rw [p2]
      simp only [Option.bind_some]
      have hRf1 := hD.ref hf
      have hfin : ∀ (SX S' F' T' : St) (i : Nat), EqS S SX → FrZ SX S' → EqT T1 T' → Told S' T' i → i ≤ 9 → RefR SX (some F') oP → RelB S' (some F') oP T' := fun SX S' F' T' i hE hZ hE2 hTo hi hRf => by
        refine ⟨hRf.congr hZ.2.2, ⟨i, hi, hTo.1, hTo.2.1, hTo.2.2⟩, k, hc0.congr (hE.trans hZ.eqs) (hET.trans hE2)⟩
      rcases hf.1 with ⟨z1, z2⟩ | ⟨F, z1, z2⟩
      · have e22 : S1.2.2.2 2 = none := (hD.2.2.2.1 2 (by omega) (by omega)).trans z2
        have hw : ∀ {α : Type} (x : Option α), ckw (S1.2.2.2 0) x = x := fun x => by
          rcases hRf1.2.2 with q | ⟨j, q1, q2⟩
          · rw [q]; rfl
          · rw [q2]
            show (if j < 7 then x else none) = x
            rw [if_pos q1]
        have hvX : VR 30 25 k (sR S1 2 (some 0)) T1 := hv1.congr (EqS.rfl S1) (EqT.rfl T1)
        obtain ⟨FX, tp, r1, r2⟩ := prepF (n := n) (F := Fr0) (out := W 0) (W := W) hvX hl (by omega) h60 hW (hWl 0 (by omega)) hWl
        obtain ⟨S', F', T', i, c1, c2, c3, c4, c5, c6⟩ := hline (sR S1 2 (some 0)) FX tp (EqS.rfl S1) r2
        refine ⟨nI i, S', some F', T', Or.inr (Or.inr ⟨F', z1, rfl, ?_⟩), c2, hfin (sR S1 2 (some 0)) S' F' T' i hD.eqs c3 c4 c5 c6 ⟨Or.inr ⟨F', rfl, rfl⟩, ?_, ?_⟩⟩
        · have hth : m_X8_thinkFreelyB n S1 (nI l) 0 = some (sR S1 2 (some 0), FX) := by
            unfold m_X8_thinkFreelyB
            rw [e22]
            show ckw (S1.2.2.2 0) _ = _
            rw [hw, nmE, nmE, if_pos rfl, Option.bind_some, show (sR S1 2 (some 0)).2.2.2 2 = some 0 from rfl, onw_some (by omega), ckN (by omega) (by omega), clN (by omega), r1, Option.bind_some, onw_some (by omega)]
          unfold m_X8_lineB
          rw [e1, Option.bind_some, if_neg (show ¬ (1 : Int32) = 0 by decide), if_neg hc1, if_pos hc2, p1, Option.bind_some, hth, Option.bind_some]
          unfold lineT at c1
          obtain ⟨S3, u1, u2⟩ := Option.bind_eq_some_iff.mp c1
          rw [u1, Option.bind_some, nmE, lineB_eq]
          rw [nmE] at u2
          obtain ⟨q15, v1, v2⟩ := Option.bind_eq_some_iff.mp u2
          rw [v1, Option.bind_some]
          have := Option.some.inj v2
          rw [show q15.1.1 0 = nI i from congrArg Prod.fst this, show q15.1 = S' from congrArg (fun z => z.2.1) this, show q15.2 = F' from congrArg (fun z => z.2.2) this]
        · show (oP = none ∧ (sR S1 2 (some 0)).2.2.2 3 = none) ∨ _
          rw [sR_222, if_neg (by omega)]; exact hRf1.2.1
        · rw [sR_222, if_neg (by omega)]; exact hRf1.2.2
      · have e22 : S1.2.2.2 2 = some 0 := (hD.2.2.2.1 2 (by omega) (by omega)).trans z2
        obtain ⟨FX, tp, r1, r2⟩ := prepF (n := n) (F := F) (out := W 0) (W := W) hv1 hl (by omega) h60 hW (hWl 0 (by omega)) hWl
        obtain ⟨S', F', T', i, c1, c2, c3, c4, c5, c6⟩ := hline S1 FX tp (EqS.rfl S1) r2
        refine ⟨nI i, S', some F', T', Or.inl ⟨F, F', z1, rfl, ?_⟩, c2, hfin S1 S' F' T' i hD.eqs c3 c4 c5 c6 ⟨Or.inr ⟨F', rfl, e22⟩, hRf1.2.1, hRf1.2.2⟩⟩
        have hth : m_X8_thinkFreely n S1 F (nI l) 0 = some (S1, FX) := by
          unfold m_X8_thinkFreely
          rw [e22, onw_some (by omega), if_pos rfl, Option.bind_some, e22, onw_some (by omega), ckN (by omega) (by omega), clN (by omega), r1, Option.bind_some, onw_some (by omega)]
        unfold m_X8_line
        rw [e1, Option.bind_some, if_neg (show ¬ (1 : Int32) = 0 by decide), if_neg hc1, if_pos hc2, p1, Option.bind_some, hth, Option.bind_some]
        exact c1
    · rw [in_no (by rw [t64, j0, j1]; omega)]
      simp only [Option.bind_some, b00, if_true]
      refine ⟨-1, S, oF, sI T 0 0, ?_, rfl, hR.thr 0⟩
      have hx : ∀ {α : Type} (x y : α), (if a2 < 0 then x else (if a2 ≤ 1 then y else x)) = x := fun x y => by
        by_cases q : a2 < 0
        · rw [if_pos q]
        · rw [if_neg q, if_neg]
          rw [lt32, i0] at q
          rw [le32, i1]; omega
      rcases hf.1 with ⟨z1, z2⟩ | ⟨F, z1, z2⟩
      · refine Or.inr (Or.inl ⟨z1, z1, ?_⟩)
        unfold m_X8_lineN
        rw [e1, Option.bind_some, if_neg (show ¬ (1 : Int32) = 0 by decide), hx]
      · refine Or.inl ⟨F, F, z1, z1, ?_⟩
        unfold m_X8_line
        rw [e1, Option.bind_some, if_neg (show ¬ (1 : Int32) = 0 by decide), hx]
  · rw [e2]
    simp only [Option.bind_some, b00, if_true]
    refine ⟨-1, S, oF, sI T 0 0, ?_, rfl, hR.thr 0⟩
    rcases hf.1 with ⟨z1, z2⟩ | ⟨F, z1, z2⟩
    · refine Or.inr (Or.inl ⟨z1, z1, ?_⟩)
      unfold m_X8_lineN
      rw [e1, Option.bind_some, if_pos rfl]
    · refine Or.inl ⟨F, F, z1, z1, ?_⟩
      unfold m_X8_line
      rw [e1, Option.bind_some, if_pos rfl]
