/-! ===== layer B: the starts of lifts, by the best loads; the class ===== -/
theorem FI.fr {k l out : Nat} {T : St} {W tp : Nat → Nat} {F F' : St} (h : FI k l T W out tp F) (e1 : F'.1 63 = F.1 63) (e2 : ∀ a, a < 76 → F'.2.1 a = F.2.1 a) : FI k l T W out tp F' := by
  obtain ⟨⟨h1, h2, h3⟩, h4, h5, h6, h7⟩ := h
  exact ⟨⟨e1.trans h1, h2, h3⟩, fun t f x q1 q2 q3 q4 => by rw [e2 _ (by omega)]; exact h4 t f x q1 q2 q3 q4, fun t q => by rw [e2 70 (by omega)]; exact h5 t q, fun x q => by rw [e2 75 (by omega)]; exact h6 x q, fun t s q1 q2 => by rw [e2 (72 + t) (by omega)]; exact h7 t s q1 q2⟩
theorem Keep.of {F F' : St} (e1 : F'.1 63 = F.1 63) (e2 : ∀ a, a < 76 → F'.2.1 a = F.2.1 a) (e3 : F'.2.2 = F.2.2) : Keep F F' := ⟨e1, fun a ha => e2 a (by omega), fun t s ht _ => by rw [e2 (72 + t) (by omega)], e3⟩
theorem Keep.cell {F F' : St} {t s v : Nat} (h : Keep F F') (ht : t ≤ 3) (hv : v < 2147483648) (e : F.2.1 (72 + t) s = nI v) : F'.2.1 (72 + t) s = nI v := by
  by_cases c : t = 3
  · subst c; rw [h.2.1 (72 + 3) (by omega)]; exact e
  · rw [h.2.2.1 t s (by omega) (by rw [e]; exact nI_ne_m1 hv)]; exact e
theorem FI.fsle {k l out : Nat} {ib ab : Nat} {S0 T : St} {W tp : Nat → Nat} {F : St} (h : FI k l T W out tp F) (hv : VR ib ab k S0 T) (hl : l < k) : ∀ d s, d ≤ 3 → s + 40 * d ≤ 241 → fS (odN T l) out W d s ≤ 1000000 := fS_le (fun _ _ _ ht hx hf => (od_nat hv hl ht hx hf).2) h.1.2.1 (fun x hx => h.1.2.2 x (by omega))
theorem fill_L {k l out t s : Nat} {ib ab : Nat} {S0 T : St} {W tp : Nat → Nat} (hv : VR ib ab k S0 T) (hl : l < k) (ht : t < 3) (hs : s + 40 * (3 - t) ≤ 241) {so : St → St → Int32 → Int32 → Option (Int32 × St)} (S : St)
    (hso : ∀ F s', FI k l T W out tp F → s' + 40 * (2 - t) ≤ 241 → ∃ F', so S F (nI (t + 1)) (nI s') = some (nI (fS (odN T l) out W (2 - t) s'), F') ∧ FI k l T W out tp F' ∧ Keep F F' ∧ F'.2.1 (72 + (t + 1)) s' = nI (fS (odN T l) out W (2 - t) s')) :
    ∀ d x n F, x + d = tp t + 1 → 1 ≤ x → d + 1 ≤ n → FI k l T W out tp F → (∀ y, 1 ≤ y → y < x → F.2.1 (72 + (t + 1)) (s + y) = nI (fS (odN T l) out W (2 - t) (s + y))) →
      ∃ F', m_X2_fillTables_L2 so n S F (nI t) (nI s) (nI x) = some F' ∧ FI k l T W out tp F' ∧ Keep F F' ∧ (∀ y, 1 ≤ y → y ≤ tp t → F'.2.1 (72 + (t + 1)) (s + y) = nI (fS (odN T l) out W (2 - t) (s + y))) := by
  intro d
  induction d with
  | zero =>
    intro x n F hx hx1 hn hF h
    obtain ⟨m, rfl⟩ : ∃ m, n = m + 1 := ⟨n - 1, by omega⟩
    obtain ⟨t1, t2, t3⟩ := hF.2.2.1 t ht
    refine ⟨F, ?_, hF, Keep.rfl F, fun y q1 q2 => h y q1 (by omega)⟩
    unfold m_X2_fillTables_L2
    rw [ckN (by omega) (by omega), clN (by omega), t1, if_pos (show nI (tp t) < nI x by rw [ltN (by omega) (by omega)]; omega)]
  | succ d ih =>
    intro x n F hx hx1 hn hF h
    obtain ⟨m, rfl⟩ : ∃ m, n = m + 1 := ⟨n - 1, by omega⟩
    obtain ⟨t1, t2, t3⟩ := hF.2.2.1 t ht
    obtain ⟨F1, a1, a2, a3, a4⟩ := hso F (s + x) hF (by omega)
    have hle : ∀ y, y ≤ 40 → fS (odN T l) out W (2 - t) (s + y) < 2147483648 := fun y hy => by have := hF.fsle hv hl (2 - t) (s + y) (by omega) (by omega); omega
    obtain ⟨F', b1, b2, b3, b4⟩ := ih (x + 1) m F1 (by omega) (by omega) (by omega) a2 (fun y q1 q2 => by
      by_cases c : y = x
      · subst c; exact a4
      · exact a3.cell (by omega) (hle y (by omega)) (h y q1 (by omega)))
    refine ⟨F', ?_, b2, a3.trans b3, b4⟩
    unfold m_X2_fillTables_L2
    rw [ckN (by omega) (by omega), clN (by omega), t1, if_neg (show ¬ nI (tp t) < nI x by rw [ltN (by omega) (by omega)]; omega), s1, nI_add, a1, Option.bind_some, s1]
    exact b1
theorem fill8 {k l out t s n : Nat} {ib ab : Nat} {S0 T : St} {W tp : Nat → Nat} (hv : VR ib ab k S0 T) (hl : l < k) (ht : t < 3) (hs : s + 40 * (3 - t) ≤ 241) {so : St → St → Int32 → Int32 → Option (Int32 × St)} (S : St) {F : St}
    (hso : ∀ F s', FI k l T W out tp F → s' + 40 * (2 - t) ≤ 241 → ∃ F', so S F (nI (t + 1)) (nI s') = some (nI (fS (odN T l) out W (2 - t) s'), F') ∧ FI k l T W out tp F' ∧ Keep F F' ∧ F'.2.1 (72 + (t + 1)) s' = nI (fS (odN T l) out W (2 - t) s')) (hF : FI k l T W out tp F) (hn : 120 ≤ n) :
    ∃ F', m_X2_fillTables so n S F (nI t) (nI s) = some F' ∧ FI k l T W out tp F' ∧ Keep F F' ∧ TabsF (odN T l t) out (fun b => fS (odN T l) out W (2 - t) (s + b)) t s (tp t) F' := by
  obtain ⟨t1, t2, t3⟩ := hF.2.2.1 t ht
  obtain ⟨F1, a1, a2, a3, a4⟩ := fill_L hv hl ht hs S hso (tp t) 1 n F (by omega) (by omega) (by omega) hF (fun y q1 q2 => absurd q2 (by omega))
  have hDD : ∀ x f, x ≤ 40 → f ≤ 3 → odN T l t x f ≤ 1000 := fun x f hx hf => (od_nat hv hl ht hx hf).2
  have hF2 : FI k l T W out tp (sI (sI F1 64 (nI t)) 65 (nI s)) := a2.fr (by rw [sI_ne (by omega), sI_ne (by omega)]) (fun _ _ => rfl)
  have hH : FH (odN T l t) out (fun b => fS (odN T l) out W (2 - t) (s + b)) t s (tp t) (sI (sI F1 64 (nI t)) 65 (nI s)) := ⟨ht, t2, by omega, hF.1.2.1, fun b hb => hF.fsle hv hl (2 - t) (s + b) (by omega) (by omega), hDD, t3, hF2.1.1, by rw [sI_ne (by omega), sI_eq], sI_eq, fun f x q1 q2 q3 => hF2.2.1 t f x ht q1 q2 q3, a4⟩
  obtain ⟨F3, b1, b2, b3, b4, b5, b6, b7⟩ := fillOne8 (n := n) S hH (by omega)
  have hH3 := hH.fr b2 (fun a ha => b4 a (by omega))
  have hF3 : FI k l T W out tp F3 := hF2.fr (by rw [b2]) (fun a ha => b4 a (by omega))
  obtain ⟨F4, c1, c2, c3, c4, c5, c6⟩ := fillTwo8 (n := n) S hH3 ⟨b5, b6, b7⟩ (by omega)
  have hT1 : Tab1 (odN T l t) out (fun b => fS (odN T l) out W (2 - t) (s + b)) (tp t) F3 := ⟨b5, b6, b7⟩
  refine ⟨F4, ?_, hF3.fr (by rw [c2]) (fun a ha => c4 a (by omega)), a3.trans (Keep.of ?_ (fun a ha => ?_) ?_), hH3.fr c2 (fun a ha => c4 a (by omega)), hT1.fr (fun a ha => c4 a ha), c5, c6⟩
  · unfold m_X2_fillTables
    rw [show m_X2_fillTables_L2 so n S F (nI t) (nI s) 1 = _ from a1, Option.bind_some, nmE, nmE, ckN (by omega) (by omega), s1, ckN (by omega) (by omega), clN (by omega), clN (by omega), (hF2.2.2.1 t ht).1, b1, Option.bind_some, ckN (by omega) (by omega), ckN (by omega) (by omega), (hF3.2.2.1 t ht).1, c1]
    rfl
  · rw [c2, b2, sI_ne (by omega), sI_ne (by omega)]
  · rw [c4 a (by omega), b4 a (by omega)]; rfl
  · rw [c3, b3]; rfl
theorem startF {k l out n : Nat} {ib ab : Nat} {S0 T : St} {W tp : Nat → Nat} (hv : VR ib ab k S0 T) (hl : l < k) (hn : 120 ≤ n) (S : St) : ∀ g t F s, FI k l T W out tp F → t ≤ 3 → 4 ≤ g + t → s + 40 * (3 - t) ≤ 241 →
    ∃ F', m_X2_startOf n g S F (nI t) (nI s) = some (nI (fS (odN T l) out W (3 - t) s), F') ∧ FI k l T W out tp F' ∧ Keep F F' ∧ F'.2.1 (72 + t) s = nI (fS (odN T l) out W (3 - t) s) ∧ (t = 3 → F' = F) := by
  intro g
  induction g with
  | zero => intro t F s _ h1 h2; omega
  | succ g ih =>
    intro t F s hF ht hg hs
    have hle := hF.fsle hv hl (3 - t) s (by omega) hs
    unfold m_X2_startOf
    rw [if_neg (nI_pos (by omega)), lit32 3, if_neg (show ¬ nI 3 < nI t by rw [ltN (by omega) (by omega)]; omega), if_neg (nI_pos (by omega)), lit32 242, if_pos (show nI s < nI 242 by rw [ltN (by omega) (by omega)]; omega), ifleN (by omega) (by omega)]
    by_cases c : 3 ≤ t
    · have h3 : t = 3 := by omega
      subst h3
      rw [if_pos c, Option.bind_some, ckN (by omega) (by omega), ckN (by omega) (by omega), clN (by omega), clN (by omega)]
      have e75 : F.2.1 (72 + 3) s = nI (fS (odN T l) out W (3 - 3) s) := hF.2.2.2.1 s (by omega)
      rw [e75]
      exact ⟨F, rfl, hF, Keep.rfl F, e75, fun _ => rfl⟩
    · have ht3 : t < 3 := by omega
      rw [if_neg c, ckN (by omega) (by omega), ckN (by omega) (by omega), clN (by omega), clN (by omega)]
      rcases hF.2.2.2.2 t s ht3 hs with q | q
      · obtain ⟨F1, a1, a2, a3, a4⟩ := fill8 (n := n) hv hl ht3 hs (so := m_X2_startOf n g) S (F := F) (fun F s' hF' hs' => by
          obtain ⟨F', z1, z2, z3, z4, _⟩ := ih (t + 1) F s' hF' (by omega) (by omega) (by omega)
          rw [show 3 - (t + 1) = 2 - t by omega] at z1 z4
          exact ⟨F', z1, z2, z3, z4⟩) hF hn
        have hch := choose8 (n := n) (j := 2) (f := 0) (b := 0) (L := 1) S a4 (a2.2.2.1 t ht3).1 (Or.inl ⟨rfl, rfl, rfl⟩) (by omega) (by omega) (by omega) (by omega) (fun z => absurd rfl z)
        have ev : (bst (fg (odN T l t) out (fun b => fS (odN T l) out W (2 - t) (s + b)) 2 0 0) (40 - 1) 1).1 = fS (odN T l) out W (3 - t) s := by
          rw [← fv_go (j := 2) (L := 1) (by omega), show 3 - t = (2 - t) + 1 by omega]
          show _ = fv (odN T l (2 - (2 - t))) out (fun b => fS (odN T l) out W (2 - t) (s + b)) 3 0 1 0
          rw [show 2 - (2 - t) = t by omega]
        rw [ev] at hch
        obtain ⟨ld, hld⟩ : ∃ ld, nI (bst (fg (odN T l t) out (fun b => fS (odN T l) out W (2 - t) (s + b)) 2 0 0) (40 - 1) 1).2 = ld := ⟨_, rfl⟩
        rw [hld] at hch
        rw [q, if_neg (show ¬ (0 : Int32) ≤ -1 by decide), a1, Option.bind_some, ckN (by omega) (by omega), show m_X2_choose n S F1 (nI 3) 0 0 1 = _ from hch, Option.bind_some, ckN (by omega) (by omega), nmE, Option.bind_some, ckN (by omega) (by omega), ckN (by omega) (by omega), sA_eq]
        have e63 : (sI F1 62 ld).1 63 = F1.1 63 := sI_ne (by omega)
        refine ⟨sA (sI F1 62 ld) (72 + t) s (nI (fS (odN T l) out W (3 - t) s)), rfl, ?_, ?_, sA_eq, fun z => absurd z (by omega)⟩
        · obtain ⟨⟨g1, g2, g3⟩, g4, g5, g6, g7⟩ := a2
          refine ⟨⟨e63.trans g1, g2, g3⟩, fun t' f x q1 q2 q3 q4 => by rw [sA_row (by omega)]; exact g4 t' f x q1 q2 q3 q4, fun t' z => by rw [sA_row (by omega)]; exact g5 t' z, fun x z => by rw [sA_row (by omega)]; exact g6 x z, fun t' s' z1 z2 => ?_⟩
          by_cases ct : t' = t
          · subst ct
            by_cases cs : s' = s
            · subst cs; exact Or.inr sA_eq
            · rw [sA_ne cs]; exact g7 t' s' z1 z2
          · rw [sA_row (by omega)]; exact g7 t' s' z1 z2
        · refine a3.trans ⟨e63, fun a ha => sA_row (by omega), fun t' s' z1 z2 => ?_, rfl⟩
          by_cases ct : t' = t
          · subst ct
            by_cases cs : s' = s
            · subst cs
              rw [sA_eq]
              rcases a2.2.2.2.2 t' s' ht3 hs with w | w
              · exact absurd w z2
              · exact w.symm
            · rw [sA_ne cs]; rfl
          · rw [sA_row (by omega)]; rfl
      · rw [q, if_pos (nI_pos' (nI_lt31 (by omega))), Option.bind_some, ckN (by omega) (by omega), ckN (by omega) (by omega), q]
        exact ⟨F, rfl, hF, Keep.rfl F, q, fun z => absurd z (by omega)⟩
/-! prepare -/
theorem prep38_L {k l t x : Nat} {S T : St} (hv : VR 30 25 k S T) (hl : l < k) (ht : t < 3) (hx1 : 1 ≤ x) (hx : x ≤ 40) : ∀ d f n F, f + d = 3 → d + 1 ≤ n → (∀ f', f' < f → F.2.1 (61 + (3 * t + f')) x = nI (odN T l t x f')) →
    ∃ F', m_X2_prepare_L38 n S F l (T.1 10) (nI t) (nI x) (nI f) = some F' ∧ F'.1 = F.1 ∧ F'.2.2 = F.2.2 ∧ (∀ a, (a < 61 + 3 * t ∨ 61 + 3 * t + 3 ≤ a) → F'.2.1 a = F.2.1 a) ∧ (∀ a y, y ≠ x → F'.2.1 a y = F.2.1 a y) ∧ (∀ f', f' < 3 → F'.2.1 (61 + (3 * t + f')) x = nI (odN T l t x f')) := by
  have hk := hv.1
  intro d
  induction d with
  | zero =>
    intro f n F hf hn h
    obtain ⟨m, rfl⟩ : ∃ m, n = m + 1 := ⟨n - 1, by omega⟩
    refine ⟨F, ?_, rfl, rfl, fun _ _ => rfl, fun _ _ _ => rfl, fun f' q => h f' (by omega)⟩
    unfold m_X2_prepare_L38
    rw [lit32 3, if_pos (show nI 3 ≤ nI f by rw [leN (by omega) (by omega)]; omega)]
  | succ d ih =>
    intro f n F hf hn h
    obtain ⟨m, rfl⟩ : ∃ m, n = m + 1 := ⟨n - 1, by omega⟩
    have ho := od_nat hv hl ht hx (show f ≤ 3 by omega)
    have eo : mx 0 (tabT T l t (nI x) - nI f * T.1 10) = nI (odN T l t x f) := by rw [← ho.1, Int32.mul_comm]; rfl
    obtain ⟨F', e1, e2, e3, e4, e5, e6⟩ := ih (f + 1) m (sA F (61 + (3 * t + f)) x (nI (odN T l t x f))) (by omega) (by omega) (fun f' q => by
      by_cases c : f' = f
      · subst c; exact sA_eq
      · rw [sA_row (by omega)]; exact h f' (by omega))
    refine ⟨F', ?_, e2, e3, fun a ha => (e4 a ha).trans (sA_row (by omega)), fun a y hy => ?_, e6⟩
    · unfold m_X2_prepare_L38
      rw [lit32 3, if_neg (show ¬ nI 3 ≤ nI f by rw [leN (by omega) (by omega)]; omega), ← lit32 3, m3, nI_add, ckN (by omega) (by omega), odds8 hv hl ht hx1 hx, Option.bind_some, eo, ckN (by omega) (by omega), nmE, clN (by omega), clN (by omega), s1]
      exact e1
    · rw [e5 a y hy, sA_21]
      by_cases c : a = 61 + (3 * t + f)
      · rw [if_pos c, if_neg hy, c]
      · rw [if_neg c]
theorem prep28_L {k l t : Nat} {S T : St} (hv : VR 30 25 k S T) (hl : l < k) (ht : t < 3) : ∀ d x n F tp, x + d = 41 → 1 ≤ x → d + 6 ≤ n → F.2.1 70 t = nI tp → tp < x → (∀ y, tp < y → y < x → odN T l t y 0 = 0) → (∀ f y, f < 3 → 1 ≤ y → y < x → F.2.1 (61 + (3 * t + f)) y = nI (odN T l t y f)) →
    ∃ F' tp', m_X2_prepare_L28 n S F l (T.1 10) (nI t) (nI x) = some F' ∧ F'.1 = F.1 ∧ F'.2.2 = F.2.2 ∧ (∀ a, (a < 61 + 3 * t ∨ 61 + 3 * t + 3 ≤ a) → a ≠ 70 → F'.2.1 a = F.2.1 a) ∧ (∀ y, y ≠ t → F'.2.1 70 y = F.2.1 70 y) ∧ F'.2.1 70 t = nI tp' ∧ tp' ≤ 40 ∧ (∀ y, tp' < y → y ≤ 40 → odN T l t y 0 = 0) ∧ (∀ f y, f < 3 → 1 ≤ y → y ≤ 40 → F'.2.1 (61 + (3 * t + f)) y = nI (odN T l t y f)) := by
  intro d
  induction d with
  | zero =>
    intro x n F tp hx hx1 hn h70 htp h0 h
    obtain ⟨m, rfl⟩ : ∃ m, n = m + 1 := ⟨n - 1, by omega⟩
    refine ⟨F, tp, ?_, rfl, rfl, fun _ _ _ => rfl, fun _ _ => rfl, h70, by omega, fun y q1 q2 => h0 y q1 (by omega), fun f y q1 q2 q3 => h f y q1 q2 (by omega)⟩
    unfold m_X2_prepare_L28
    rw [lit32 40, if_pos (show nI 40 < nI x by rw [ltN (by omega) (by omega)]; omega)]
  | succ d ih =>
    intro x n F tp hx hx1 hn h70 htp h0 h
    obtain ⟨m, rfl⟩ : ∃ m, n = m + 1 := ⟨n - 1, by omega⟩
    obtain ⟨F1, e1, e2, e3, e4, e5, e6⟩ := prep38_L hv hl ht hx1 (show x ≤ 40 by omega) 3 0 m F (by omega) (by omega) (fun f' q => absurd q (by omega))
    have hall : ∀ f y, f < 3 → 1 ≤ y → y < x + 1 → F1.2.1 (61 + (3 * t + f)) y = nI (odN T l t y f) := fun f y q1 q2 q3 => by
      by_cases c : y = x
      · subst c; exact e6 f q1
      · rw [e5 _ y c]; exact h f y q1 q2 (by omega)
    have ho := (od_nat hv hl ht (show x ≤ 40 by omega) (show 0 ≤ 3 by omega)).2
    have e70 : ∀ y, F1.2.1 70 y = F.2.1 70 y := fun y => by rw [e4 70 (by omega)]
    unfold m_X2_prepare_L28
    rw [lit32 40, if_neg (show ¬ nI 40 < nI x by rw [ltN (by omega) (by omega)]; omega), show m_X2_prepare_L38 m S F l (T.1 10) (nI t) (nI x) 0 = _ from e1, Option.bind_some, m3, ckN (by omega) (by omega), ckN (by omega) (by omega), clN (by omega), clN (by omega), show F1.2.1 (61 + 3 * t) x = nI (odN T l t x 0) from e6 0 (by omega), ifle0N (by omega), ckN (by omega) (by omega), nmE, clN (by omega), s1]
    by_cases c : odN T l t x 0 ≤ 0
    · rw [if_pos c]
      obtain ⟨F', tp', g1, g2, g3, g4, g5, g6, g7, g8, g9⟩ := ih (x + 1) m F1 tp (by omega) (by omega) (by omega) (by rw [e70]; exact h70) (by omega) (fun y q1 q2 => by
        by_cases cy : y = x
        · subst cy; omega
        · exact h0 y q1 (by omega)) hall
      exact ⟨F', tp', g1, g2.trans e2, g3.trans e3, fun a q1 q2 => (g4 a q1 q2).trans (e4 a q1), fun y q => (g5 y q).trans (e70 y), g6, g7, g8, g9⟩
    · rw [if_neg c]
      obtain ⟨F', tp', g1, g2, g3, g4, g5, g6, g7, g8, g9⟩ := ih (x + 1) m (sA F1 70 t (nI x)) x (by omega) (by omega) (by omega) sA_eq (by omega) (fun y q1 q2 => by omega) (fun f y q1 q2 q3 => by rw [sA_row (by omega)]; exact hall f y q1 q2 q3)
      exact ⟨F', tp', g1, g2.trans e2, g3.trans e3, fun a q1 q2 => by rw [g4 a q1 q2, sA_row q2, e4 a q1], fun y q => by rw [g5 y q, sA_ne q, e70], g6, g7, g8, g9⟩
theorem prep11_L {k l : Nat} {S T : St} (hv : VR 30 25 k S T) (hl : l < k) : ∀ d t n F (tp : Nat → Nat), t + d = 3 → d + 50 ≤ n → (∀ t', t' < t → F.2.1 70 t' = nI (tp t') ∧ tp t' ≤ 40 ∧ (∀ y, tp t' < y → y ≤ 40 → odN T l t' y 0 = 0) ∧ (∀ f y, f < 3 → 1 ≤ y → y ≤ 40 → F.2.1 (61 + (3 * t' + f)) y = nI (odN T l t' y f)) ∧ ∀ s, F.2.1 (72 + t') s = -1) →
    ∃ (F' : St) (tp' : Nat → Nat), m_X2_prepare_L11 n S F l (T.1 10) (nI t) = some F' ∧ F'.1 = F.1 ∧ F'.2.2 = F.2.2 ∧ (∀ t', t' < 3 → F'.2.1 70 t' = nI (tp' t') ∧ tp' t' ≤ 40 ∧ (∀ y, tp' t' < y → y ≤ 40 → odN T l t' y 0 = 0) ∧ (∀ f y, f < 3 → 1 ≤ y → y ≤ 40 → F'.2.1 (61 + (3 * t' + f)) y = nI (odN T l t' y f)) ∧ ∀ s, F'.2.1 (72 + t') s = -1) := by
  intro d
  induction d with
  | zero =>
    intro t n F tp ht hn h
    obtain ⟨m, rfl⟩ : ∃ m, n = m + 1 := ⟨n - 1, by omega⟩
    refine ⟨F, tp, ?_, rfl, rfl, fun t' q => h t' (by omega)⟩
    unfold m_X2_prepare_L11
    rw [lit32 3, if_pos (show nI 3 ≤ nI t by rw [leN (by omega) (by omega)]; omega)]
  | succ d ih =>
    intro t n F tp ht hn h
    obtain ⟨m, rfl⟩ : ∃ m, n = m + 1 := ⟨n - 1, by omega⟩
    obtain ⟨F1, tp1, e1, e2, e3, e4, e5, e6, e7, e8, e9⟩ := prep28_L hv hl (show t < 3 by omega) 40 1 m (sA F 70 t 0) 0 (by omega) (by omega) (by omega) sA_eq (by omega) (fun y q1 q2 => absurd q1 (by omega)) (fun f y q1 q2 q3 => absurd q2 (by omega))
    obtain ⟨F', tp', g1, g2, g3, g4⟩ := ih (t + 1) m (sF F1 (72 + t) (fun _ => (-1))) (fun u => if u = t then tp1 else tp u) (by omega) (by omega) (fun t' q => by
      have r : ∀ a, a ≠ 72 + t → (sF F1 (72 + t) (fun _ => (-1))).2.1 a = F1.2.1 a := fun a ha => by rw [sF_21, if_neg ha]
      by_cases c : t' = t
      · subst c
        rw [if_pos rfl, r 70 (by omega)]
        exact ⟨e6, e7, e8, fun f y q1 q2 q3 => by rw [r _ (by omega)]; exact e9 f y q1 q2 q3, fun s => by rw [sF_21, if_pos rfl]⟩
      · obtain ⟨z1, z2, z3, z4, z5⟩ := h t' (by omega)
        rw [if_neg c, r 70 (by omega)]
        refine ⟨by rw [e5 t' c, sA_ne c]; exact z1, z2, z3, fun f y q1 q2 q3 => by rw [r _ (by omega), e4 _ (by omega) (by omega), sA_row (by omega)]; exact z4 f y q1 q2 q3, fun s => by rw [r _ (by omega), e4 _ (by omega) (by omega), sA_row (by omega)]; exact z5 s⟩)
    refine ⟨F', tp', ?_, g2.trans e2, g3.trans e3, g4⟩
    unfold m_X2_prepare_L11
    rw [lit32 3, if_neg (show ¬ nI 3 ≤ nI t by rw [leN (by omega) (by omega)]; omega), ckN (by omega) (by omega), nmE, clN (by omega), show m_X2_prepare_L28 m S (sA F 70 t 0) l (T.1 10) (nI t) 1 = _ from e1, Option.bind_some, ckN (by omega) (by omega), nmE, s1]
    exact g1
theorem prepF {k l n out : Nat} {S T F : St} {W : Nat → Nat} (hv : VR 30 25 k S T) (hl : l < k) (hn : 60 ≤ n) (h60 : S.1 60 = nI out) (hW : ∀ x, x < 242 → S.2.1 45 x = nI (W x)) (ho : out ≤ 1000000) (hWl : ∀ x, x < 242 → W x ≤ 1000000) :
    ∃ (F' : St) (tp : Nat → Nat), m_X2_prepare n S F l (S.1 31) = some F' ∧ FI k l T W out tp F' := by
  have hk := hv.1
  obtain ⟨F1, tp, e1, e2, e3, e4⟩ := prep11_L hv hl 3 0 n (sI F 63 (S.1 60)) (fun _ => 0) (by omega) (by omega) (fun t' q => absurd q (by omega))
  refine ⟨sF F1 (72 + 3) (va_cpy (S.2.1 45) (F1.2.1 (72 + 3)) 0 0 242), tp, ?_, ⟨?_, ho, hWl⟩, fun t f x q1 q2 q3 q4 => ?_, fun t q => ?_, fun x q => ?_, fun t s q1 q2 => ?_⟩
  · unfold m_X2_prepare
    rw [nmE, show S.1 31 = T.1 10 from hv.tire, show m_X2_prepare_L11 n S (sI F 63 (S.1 60)) l (T.1 10) 0 = _ from e1]
    rfl
  · show F1.1 63 = _
    rw [e2, sI_eq]; exact h60
  · rw [sF_21, if_neg (by omega)]; exact (e4 t q1).2.2.2.1 f x q2 q3 q4
  · rw [sF_21, if_neg (by omega)]
    obtain ⟨z1, z2, z3, z4, z5⟩ := e4 t q
    refine ⟨z1, z2, fun x f w1 w2 w3 => ?_⟩
    have := odN_mono hv hl q w2 (show f ≤ 3 by omega)
    have := z3 x w1 w2
    omega
  · rw [sF_21, if_pos rfl, pk_cpy_in (by omega) (by omega)]
    show S.2.1 45 (0 + (x - 0)) = _
    rw [show 0 + (x - 0) = x by omega]; exact hW x q
  · rw [sF_21, if_neg (by omega)]; exact Or.inl ((e4 t q1).2.2.2.2 s)
/-! what the best loads are worth from now on -/
def vfN (T : St) (l out : Nat) (W : Nat → Nat) (o t s b f j L : Nat) : Nat × Nat :=
  if o = 1 then (out, 0) else if t < 3 then (if 1 ≤ j ∧ L ≤ 40 then bst (fg (odN T l t) out (fun b => fS (odN T l) out W (2 - t) (s + b)) (j - 1) f b) (40 - L) L else (fE out (fun b => fS (odN T l) out W (2 - t) (s + b)) b, 0)) else (W s, 0)
/-- the numbers in now -/
def NowS (S : St) (o t s b f j L : Nat) : Prop := S.1 50 = nI o ∧ o ≤ 1 ∧ (o = 0 → S.1 51 = nI t ∧ t ≤ 3 ∧ S.1 52 = nI s ∧ s + 40 * (3 - t) ≤ 241 ∧ (t < 3 → S.1 53 = nI b ∧ b ≤ 40 ∧ S.1 54 = nI f ∧ f ≤ 3 ∧ S.1 57 = nI j ∧ j ≤ 3 ∧ (1 ≤ j → S.1 56 = nI L ∧ 1 ≤ L ∧ L ≤ 41 ∧ b < L ∧ PC j f b)))
theorem hasTry8 {S : St} {o t s b f j L : Nat} (h : NowS S o t s b f j L) : m_X5_hasTry S = some (if o = 0 ∧ t < 3 ∧ 1 ≤ j ∧ L ≤ 40 then 1 else 0) := by
  obtain ⟨h1, h2, h3⟩ := h
  unfold m_X5_hasTry
  rw [h1, if0N (by omega)]
  by_cases c : o = 0
  · obtain ⟨h4, h5, h6, h7, h8⟩ := h3 c
    rw [if_pos c, h4, lit32 3, ifleN (by omega) (by omega)]
    by_cases ct : 3 ≤ t
    · rw [if_pos ct, if_neg (by omega)]
    · obtain ⟨g1, g2, g3, g4, g5, g6, g7⟩ := h8 (by omega)
      rw [if_neg ct, g5, ifle0N (by omega)]
      by_cases cj : j ≤ 0
      · rw [if_pos cj, if_neg (by omega)]
      · obtain ⟨k1, k2, k3, k4, k5⟩ := g7 (by omega)
        rw [if_neg cj, k1, lit32 40, ifltN (by omega) (by omega)]
        by_cases cL : 40 < L
        · rw [if_pos cL, if_neg (by omega)]
        · rw [if_neg cL, if_pos (by omega)]
  · rw [if_neg c, if_neg (by omega)]
theorem valF {k l out n o t s b f j L : Nat} {ib ab : Nat} {S0 T S F : St} {W tp : Nat → Nat} (hv : VR ib ab k S0 T) (hl : l < k) (hF : FI k l T W out tp F) (hN : NowS S o t s b f j L) (hn : 150 ≤ n) :
    ∃ F', m_X2_valueFrom n S F = some (nI (vfN T l out W o t s b f j L).1, F') ∧ FI k l T W out tp F' ∧ ((o = 1 ∨ 3 ≤ t ∨ (1 ≤ j ∧ L ≤ 40)) → F'.1 62 = nI (vfN T l out W o t s b f j L).2) := by
  have hk := hv.1
  have hht := hasTry8 hN
  obtain ⟨h1, h2, h3⟩ := hN
  have hF1 : FI k l T W out tp (sI F 62 0) := hF.fr (sI_ne (by omega)) (fun _ _ => rfl)
  unfold m_X2_valueFrom vfN
  rw [nmE, h1, if0N (by omega)]
  by_cases c : o = 0
  · obtain ⟨h4, h5, h6, h7, h8⟩ := h3 c
    rw [if_pos c, if_neg (show ¬ o = 1 by omega), h4, lit32 3, ifltN (by omega) (by omega)]
    by_cases ct : t < 3
    · obtain ⟨g1, g2, g3, g4, g5, g6, g7⟩ := h8 ct
      rw [if_pos ct, if_pos ct, g1, if0N (by omega), h6]
      have hend : ∃ F2, (((if b = 0 then (some (sI F 62 0, (sI F 62 0).1 63)) else ((m_X2_startOf n 6 S (sI F 62 0) (nI t + 1) (nI s + nI b)).bind (fun r15 => some (r15.2, r15.1))) : Option (St × Int32)))) = some (F2, nI (fE out (fun b => fS (odN T l) out W (2 - t) (s + b)) b)) ∧ FI k l T W out tp F2 ∧ (b ≠ 0 → F2.2.1 (72 + (t + 1)) (s + b) = nI (fS (odN T l) out W (2 - t) (s + b))) := by
        unfold fE
        by_cases cb : b = 0
        · rw [if_pos cb, if_pos cb, hF1.1.1]
          exact ⟨_, rfl, hF1, fun z => absurd cb z⟩
        · rw [if_neg cb, if_neg cb, s1, nI_add]
          obtain ⟨F2, e1, e2, e3, e4, e5⟩ := startF (n := n) hv hl (by omega) S 6 (t + 1) (sI F 62 0) (s + b) hF1 (by omega) (by omega) (by omega)
          rw [show 3 - (t + 1) = 2 - t by omega] at e1 e4
          rw [e1, Option.bind_some]
          exact ⟨F2, rfl, e2, fun _ => e4⟩
      obtain ⟨F2, e1, e2, e3⟩ := hend
      rw [e1, Option.bind_some, hht, Option.bind_some]
      by_cases cj : 1 ≤ j ∧ L ≤ 40
      · rw [if_pos (show o = 0 ∧ t < 3 ∧ 1 ≤ j ∧ L ≤ 40 from ⟨c, ct, cj⟩), if_neg (show ¬ (1 : Int32) = 0 by decide), if_pos cj]
        obtain ⟨k1, k2, k3, k4, k5⟩ := g7 cj.1
        obtain ⟨F3, f1, f2, f3, f4⟩ := fill8 (n := n) hv hl ct h7 (so := m_X2_startOf n 6) S (F := F2) (fun F' s' hF' hs' => by
          obtain ⟨F4, z1, z2, z3, z4, _⟩ := startF (n := n) hv hl (by omega) S 6 (t + 1) F' s' hF' (by omega) (by omega) (by omega)
          rw [show 3 - (t + 1) = 2 - t by omega] at z1 z4
          exact ⟨F4, z1, z2, z3, z4⟩) e2 (by omega)
        obtain ⟨j', rfl⟩ : ∃ j', j = j' + 1 := ⟨j - 1, by omega⟩
        have hch := choose8 (n := n) (j := j') S f4 (f2.2.2.1 t ct).1 k5 k2 cj.2 k4 (by omega) (fun z => f3.cell (by omega) (by have := hF.fsle hv hl (2 - t) (s + b) (by omega) (by omega); omega) (e3 z))
        rw [f1, Option.bind_some, g5, g3, k1, hch, Option.bind_some, show j' + 1 - 1 = j' by omega]
        exact ⟨_, rfl, f2.fr (sI_ne (by omega)) (fun _ _ => rfl), fun _ => sI_eq⟩
      · rw [if_neg (show ¬ (o = 0 ∧ t < 3 ∧ 1 ≤ j ∧ L ≤ 40) from fun z => cj z.2.2), if_pos rfl, if_neg cj]
        exact ⟨F2, rfl, e2, fun z => by omega⟩
    · rw [if_neg ct, if_neg ct, h6]
      have ht3 : t = 3 := by omega
      subst ht3
      obtain ⟨F2, e1, e2, e3, e4, e5⟩ := startF (n := n) hv hl (by omega) S 6 3 (sI F 62 0) s hF1 (by omega) (by omega) h7
      rw [show m_X2_startOf n 6 S (sI F 62 0) (nI 3) (nI s) = _ from e1, Option.bind_some]
      exact ⟨F2, rfl, e2, fun _ => by rw [e5 rfl, sI_eq]; rfl⟩
  · rw [if_neg c, if_pos (show o = 1 by omega), hF1.1.1]
    exact ⟨_, rfl, hF1, fun _ => sI_eq⟩
