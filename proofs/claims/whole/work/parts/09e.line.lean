/-! ===== layer B: line ===== -/
theorem lineB_eq : ∀ n S F x3 x5, m_X8_lineB_L66 n S F x3 x5 = m_X8_line_L66 n S F x3 x5 := by
  intro n
  induction n with
  | zero => intros; rfl
  | succ n ih =>
    intro S F x3 x5
    unfold m_X8_lineB_L66 m_X8_line_L66
    simp only [ih]
def FrJ (T T' : St) : Prop := EqT T T' ∧ T'.2.1 28 = T.2.1 28
theorem FrJ.rfl (T : St) : FrJ T T := ⟨EqT.rfl T, Eq.refl _⟩
theorem FrJ.trans {S S' S2 : St} (h : FrJ S S') (g : FrJ S' S2) : FrJ S S2 := ⟨h.1.trans g.1, g.2.trans h.2⟩
theorem FrB.fj {T T' : St} (h : FrB T T') : FrJ T T' := ⟨h.eqt, h.2.1 28 (by omega) (by omega)⟩
/-- what is told so far is the same -/
def Told (S T : St) (i : Nat) : Prop := S.1 0 = nI i ∧ T.1 1 = nI i ∧ ∀ x, x < i → S.2.2.1 58 x = T.2.2.1 2 x
/-- now, and what is told, may have changed -/
def FrZ (S S' : St) : Prop := (∀ i, i ≠ 0 → (i < 50 ∨ 57 < i) → S'.1 i = S.1 i) ∧ S'.2.1 = S.2.1 ∧ S'.2.2.2 = S.2.2.2
theorem FrZ.rfl (S : St) : FrZ S S := ⟨fun _ _ _ => Eq.refl _, Eq.refl _, Eq.refl _⟩
theorem FrZ.trans {S S' S2 : St} (h : FrZ S S') (g : FrZ S' S2) : FrZ S S2 := ⟨fun i a b => (g.1 i a b).trans (h.1 i a b), g.2.1.trans h.2.1, g.2.2.trans h.2.2⟩
theorem FrW.fz {S S' : St} (h : FrW S S') : FrZ S S' := ⟨fun i _ b => h.1 i b, by rw [h.2], by rw [h.2]⟩
theorem FrZ.eqs {S S' : St} (h : FrZ S S') : EqS S S' := ⟨fun i q1 q2 => h.1 i (by omega) (by omega), fun a _ => by rw [h.2.1]⟩
theorem PC.next {j f b x L : Nat} (h : PC (j + 2) f b) (hx : 1 ≤ x) (g : Nat) (hg : g = 0 ∨ g = 1) : PC (j + 1) (if g = 0 then f + 1 else f) (if g = 0 then b else x) := by
  unfold PC at *
  rcases hg with q | q
  · rw [if_pos q, if_pos q]; omega
  · rw [if_neg (by omega), if_neg (by omega)]; omega
/-- a try of the line, in the class -/
theorem line_step {ib ab k l out t s b f j L i n : Nat} {S0 S T F : St} {W tp : Nat → Nat} {g : Nat} (hg : g = 0 ∨ g = 1) (hv : VR ib ab k S0 T) (hl : l < k) (hF : FI k l T W out tp F) (hN : NowS S 0 t s b f (j + 1) L) (ht : t < 3) (hL : L ≤ 40) (hi : i < 9) (h0 : S.1 0 = nI i) (hn : 200 ≤ n) {X : Nat} (hX : X = (bst (fg (odN T l t) out (fun b => fS (odN T l) out W (2 - t) (s + b)) j f b) (40 - L) L).2) :
    ∃ S' F', m_X8_line_L66 (n + 1) S F (nI g) (nI i) = m_X8_line_L66 n S' F' (nI g) (nI (i + 1)) ∧ FrZ S S' ∧ FI k l T W out tp F' ∧ NowS S' 0 t s (if g = 0 then b else X) (if g = 0 then f + 1 else f) j (if g = 0 then X else X + 1) ∧ S'.1 0 = nI (i + 1) ∧ S'.2.2.1 58 i = (nI X).toInt64 ∧ (∀ x, x < i → S'.2.2.1 58 x = S.2.2.1 58 x) := by
  have hst : (0 : Nat) = 1 ∨ 3 ≤ t ∨ (1 ≤ j + 1 ∧ L ≤ 40) := Or.inr (Or.inr ⟨by omega, hL⟩)
  obtain ⟨F', d1, d2, d3⟩ := valF (n := n) hv hl hF hN (by omega)
  have hvf : vfN T l out W 0 t s b f (j + 1) L = bst (fg (odN T l t) out (fun b => fS (odN T l) out W (2 - t) (s + b)) j f b) (40 - L) L := by
    unfold vfN
    rw [if_neg (by omega), if_pos ht, if_pos ⟨by omega, hL⟩, show j + 1 - 1 = j by omega]
  have e62 : F'.1 62 = nI X := by rw [d3 hst, hvf, hX]
  have hXin := bst_in (g := fg (odN T l t) out (fun b => fS (odN T l) out W (2 - t) (s + b)) j f b) (40 - L) L
  rw [← hX] at hXin
  obtain ⟨n1, n2, n3⟩ := id hN
  obtain ⟨n4, n5, n6, n7, n8⟩ := n3 rfl
  obtain ⟨m1, m2, m3', m4', m5, m6, m7⟩ := n8 ht
  obtain ⟨l1, l2, l3, l4, l5⟩ := m7 (by omega)
  have hfind : m_X5_findTry n S = some (1, S) := by
    obtain ⟨m, rfl⟩ : ∃ m, n = m + 1 := ⟨n - 1, by omega⟩
    unfold m_X5_findTry
    rw [find_stop hN hst 0, Option.bind_some, hasTry8 hN, if_pos ⟨rfl, ht, by omega, hL⟩, Option.bind_some]
    rfl
  have hi1 : ∀ x, x ≠ 0 → (sI (sJ S 58 i (nI X).toInt64) 0 (nI (i + 1))).1 x = S.1 x := fun x hx => sI_ne hx
  -- the state behind
  have htk : ∃ S', m_X5_take (sI (sJ S 58 i (nI X).toInt64) 0 (nI (i + 1))) (nI X) (nI g) = some S' ∧ (∀ x, (x < 50 ∨ 57 < x) → S'.1 x = (sI (sJ S 58 i (nI X).toInt64) 0 (nI (i + 1))).1 x) ∧ S'.2 = (sJ S 58 i (nI X).toInt64).2 ∧ S'.1 50 = nI 0 ∧ S'.1 51 = nI t ∧ S'.1 52 = nI s ∧ S'.1 53 = nI (if g = 0 then b else X) ∧ S'.1 54 = nI (if g = 0 then f + 1 else f) ∧ S'.1 56 = nI (if g = 0 then X else X + 1) ∧ S'.1 57 = nI j := by
    have e57 : (sI (sJ S 58 i (nI X).toInt64) 0 (nI (i + 1))).1 57 - 1 = nI j := by rw [hi1 57 (by omega), m5, nI_pred]
    unfold m_X5_take
    simp only [nmE]
    rw [e57, if0N (by omega)]
    rcases hg with q | q
    · rw [if_pos q, if_pos q, if_pos q, if_pos q]
      refine ⟨_, rfl, fun x hx => ?_, rfl, ?_, ?_, ?_, ?_, ?_, sI_eq, ?_⟩
      · rw [sI_ne (by omega), sI_ne (by omega), sI_ne (by omega)]
      · rw [sI_ne (by omega), sI_ne (by omega), sI_ne (by omega), hi1 50 (by omega)]; exact n1
      · rw [sI_ne (by omega), sI_ne (by omega), sI_ne (by omega), hi1 51 (by omega)]; exact n4
      · rw [sI_ne (by omega), sI_ne (by omega), sI_ne (by omega), hi1 52 (by omega)]; exact n6
      · rw [sI_ne (by omega), sI_ne (by omega), sI_ne (by omega), hi1 53 (by omega)]; exact m1
      · rw [sI_ne (by omega), sI_eq, sI_ne (by omega), hi1 54 (by omega), m3', s1]
      · rw [sI_ne (by omega), sI_ne (by omega), sI_eq]
    · rw [if_neg (by omega), if_neg (by omega), if_neg (by omega), if_neg (by omega)]
      refine ⟨_, rfl, fun x hx => ?_, rfl, ?_, ?_, ?_, ?_, ?_, ?_, ?_⟩
      · rw [sI_ne (by omega), sI_ne (by omega), sI_ne (by omega)]
      · rw [sI_ne (by omega), sI_ne (by omega), sI_ne (by omega), hi1 50 (by omega)]; exact n1
      · rw [sI_ne (by omega), sI_ne (by omega), sI_ne (by omega), hi1 51 (by omega)]; exact n4
      · rw [sI_ne (by omega), sI_ne (by omega), sI_ne (by omega), hi1 52 (by omega)]; exact n6
      · rw [sI_ne (by omega), sI_eq]
      · rw [sI_ne (by omega), sI_ne (by omega), sI_ne (by omega), hi1 54 (by omega)]; exact m3'
      · rw [sI_eq, s1]
      · rw [sI_ne (by omega), sI_ne (by omega), sI_eq]
  obtain ⟨S', k1, k2, k3, k50, k51, k52, k53, k54, k56, k57⟩ := htk
  refine ⟨S', F', ?_, ⟨fun x q1 q2 => by rw [k2 x q2, hi1 x q1], by rw [k3]; rfl, by rw [k3]; rfl⟩, d2, ⟨k50, by omega, fun _ => ⟨k51, n5, k52, n7, fun _ => ⟨k53, ?_, k54, ?_, k57, by omega, fun q1 => ⟨k56, ?_, ?_, ?_, ?_⟩⟩⟩⟩, ?_, ?_, fun x hx => ?_⟩
  · conv => lhs; unfold m_X8_line_L66
    simp only [nmE]
    rw [lit32 9, if_neg (show ¬ nI 9 ≤ nI i by rw [leN (by omega) (by omega)]; omega), hfind, Option.bind_some, if_neg (show ¬ (1 : Int32) = 0 by decide), d1, Option.bind_some, ckN (by omega) (by omega), clN (by omega), e62, show (sJ S 58 i (nI X).toInt64).1 0 + 1 = nI (i + 1) by show S.1 0 + 1 = _; rw [h0, s1], k1, Option.bind_some, s1]
  · split <;> omega
  · have : f ≤ 2 := by unfold PC at l5; omega
    split <;> omega
  · split <;> omega
  · split <;> omega
  · rcases hg with q | q
    · rw [if_pos q, if_pos q]; omega
    · rw [if_neg (by omega), if_neg (by omega)]; omega
  · obtain ⟨j', rfl⟩ : ∃ j', j = j' + 1 := ⟨j - 1, by omega⟩
    exact PC.next (L := L) l5 (by omega) g hg
  · rw [k2 0 (by omega), sI_eq]
  · rw [k3, sJ_221, if_pos rfl, if_pos rfl]
  · rw [k3, sJ_221, if_pos rfl, if_neg (by omega)]
/-- a lift of the line, in both -/
theorem foll_L {k l t s g : Nat} {S0 T0 : St} {W tp : Nat → Nat} (hg : g = 0 ∨ g = 1) (hv : VR 30 25 k S0 T0) (hl : l < k) (ht : t < 3) (hs : s ≤ 40 * t) (hWle : ∀ x, x ≤ 120 → W x ≤ 1000000) :
    ∀ j b f L r i n n' S F T, NowS S 0 t s b f j L → FI k l T0 W (W 0) tp F → FrJ T0 T → T.2.1 28 0 = nI (W 0) → BehK (odN T0 l) (W 0) W T t → Told S T i → i + j ≤ 9 → j + 210 ≤ n → j + 200 ≤ n' → (1 ≤ j → r + j = 3) → (j = 0 → 3 ≤ r ∨ L = 0) → r ≤ 3 → L ≤ 41 → b ≤ 40 → f ≤ 3 →
      ∃ S' F' T' b' f' j' L' i', m_X8_line_L66 n S F (nI g) (nI i) = m_X8_line_L66 (n - (i' - i)) S' F' (nI g) (nI i') ∧ m_X9_follows_L15 n' T (nI l) (nI t) (nI s) (nI g) (nI L) (nI f) (nI b) (nI r) = some (T', nI b') ∧ i ≤ i' ∧ i' ≤ i + j ∧ FrZ S S' ∧ NowS S' 0 t s b' f' j' L' ∧ ¬ (1 ≤ j' ∧ L' ≤ 40) ∧ FI k l T0 W (W 0) tp F' ∧ FrJ T0 T' ∧ T'.2.1 31 = T.2.1 31 ∧ Told S' T' i' ∧ b' ≤ 40 := by
  have hk := hv.1
  intro j
  induction j with
  | zero =>
    intro b f L r i n n' S F T hN hF hJ h28 hB hTo hij hn hn' hr1 hr0 hr3 hL hb hf
    obtain ⟨m', rfl⟩ : ∃ m, n' = m + 1 := ⟨n' - 1, by omega⟩
    refine ⟨S, F, T, b, f, 0, L, i, by rw [Nat.sub_self, Nat.sub_zero], ?_, by omega, by omega, FrZ.rfl S, hN, by omega, hF, hJ, rfl, hTo, hb⟩
    unfold m_X9_follows_L15
    rw [lit32 3, ifleN (by omega) (by omega)]
    by_cases c : 3 ≤ r
    · rw [if_pos c]
    · have hL0 : L = 0 := by have := hr0 rfl; omega
      rw [if_neg c, hL0, in_no (by rw [t64, tiN (by omega)]; show (0 : Int) < 1 ∨ _; omega), Option.bind_some, if_pos rfl]
  | succ j ih =>
    intro b f L r i n n' S F T hN hF hJ h28 hB hTo hij hn hn' hr1 hr0 hr3 hL hb hf
    obtain ⟨m', rfl⟩ : ∃ m, n' = m + 1 := ⟨n' - 1, by omega⟩
    obtain ⟨l1, l2, l3, l4, l5⟩ := ((hN.2.2 rfl).2.2.2.2 ht).2.2.2.2.2.2 (by omega)
    have hr := hr1 (by omega)
    by_cases c40 : L ≤ 40
    · -- a try
      obtain ⟨m, rfl⟩ : ∃ m, n = m + 1 := ⟨n - 1, by omega⟩
      have hod : odN T l = odN T0 l := odN_eqT hJ.1 l
      have hvT := hv.congrT hJ.1
      have hH := layH_of (W := W) hvT hl ht hs h28 hWle (by rw [hod]; exact hB)
      obtain ⟨T1, a1, a2, a3⟩ := lays9 (n := m') (fr := r) hvT hl ht hH (by omega) (by omega)
      have hfr : f ≤ r := by unfold PC at l5; omega
      have hf2 : f ≤ 2 := by omega
      have hfb : f = r → b = 0 := fun q => by unfold PC at l5; omega
      have hch := choice9 (n := m') (r := r) (f := f) (L := L) (b := b) hvT hl ht hH a2 (by omega) hfr hfb l2 c40 l4 (by omega) (a3 (r + 1) (by omega) (by omega))
      rw [hod, show 2 - r = j by omega] at hch
      obtain ⟨X, hX⟩ : ∃ X, X = (bst (fg (odN T0 l t) (W 0) (fun b => fS (odN T0 l) (W 0) W (2 - t) (s + b)) j f b) (40 - L) L).2 := ⟨_, rfl⟩
      have hXin := bst_in (g := fg (odN T0 l t) (W 0) (fun b => fS (odN T0 l) (W 0) W (2 - t) (s + b)) j f b) (40 - L) L
      rw [← hX] at hXin hch
      obtain ⟨S1, F1, e1, e2, e3, e4, e5, e6, e7⟩ := line_step (n := m) (i := i) hg hv hl hF hN ht c40 (by omega) hTo.1 (by omega) hX
      have hT2 : FrJ T0 (sI (sJ (sI T1 33 (nI X)) 2 i (nI X).toInt64) 1 (nI (i + 1))) := ⟨hJ.1.trans (EqT.note (a2.set (nI X)).eqt _ _ _), by show T1.2.1 28 = _; rw [a2.2.1 28 (by omega)]; exact hJ.2⟩
      have e31 : T1.2.1 31 = T.2.1 31 := a2.2.1 31 (by omega)
      have hTo1 : Told S1 (sI (sJ (sI T1 33 (nI X)) 2 i (nI X).toInt64) 1 (nI (i + 1))) (i + 1) := by
        refine ⟨e5, sI_eq, fun x hx => ?_⟩
        show _ = (sJ (sI T1 33 (nI X)) 2 i (nI X).toInt64).2.2.1 2 x
        rw [sJ_221, if_pos rfl]
        by_cases c : x = i
        · rw [if_pos c, c]; exact e6
        · rw [if_neg c, e7 x (by omega), hTo.2.2 x (by omega)]
          show T.2.2.1 2 x = T1.2.2.1 2 x
          rw [a2.2.2]
      obtain ⟨S', F', T', b', f', j', L', i', g1, g2, g3, g4, g5, g6, g7, g8, g9, g10, g11, g12⟩ := ih (if g = 0 then b else X) (if g = 0 then f + 1 else f) (if g = 0 then X else X + 1) (r + 1) (i + 1) m m' S1 F1 (sI (sJ (sI T1 33 (nI X)) 2 i (nI X).toInt64) 1 (nI (i + 1))) e4 e3 hT2 (by show T1.2.1 28 0 = _; rw [a2.2.1 28 (by omega)]; exact h28) (fun t' s' q1 q2 q3 => by show T1.2.1 31 _ = _; rw [e31]; exact hB t' s' q1 q2 q3) hTo1 (by omega) (by omega) (by omega) (fun _ => by omega) (fun _ => Or.inl (by omega)) (by omega) (by split <;> omega) (by split <;> omega) (by split <;> omega)
      refine ⟨S', F', T', b', f', j', L', i', ?_, ?_, by omega, by omega, e2.trans g5, g6, g7, g8, g9, g10.trans e31, g11, g12⟩
      · rw [e1, g1, show m - (i' - (i + 1)) = m + 1 - (i' - i) by omega]
      · have hfl : ∀ Y : St, m_X9_flag Y (nI g) = some (nI g) := fun Y => by
          unfold m_X9_flag
          rcases hg with q | q <;> subst q <;> rfl
        have hfl2 : ∀ Y : St, ((if nI g = 0 then (some 1) else (some 0) : Option (Int32))).bind (fun q19 => m_X9_flag Y q19) = some (nI (1 - g)) := fun Y => by
          unfold m_X9_flag
          rcases hg with q | q <;> subst q <;> rfl
        unfold m_X9_follows_L15
        rw [lit32 3, ifleN (by omega) (by omega), if_neg (show ¬ 3 ≤ r by omega), in_yes (by rw [t64, tiN (by omega)]; show (1 : Int) ≤ L; omega) (by rw [t64, tiN (by omega)]; show (L : Int) ≤ 40; omega), Option.bind_some, if_neg (show ¬ (1 : Int32) = 0 by decide), a1, Option.bind_some, hch, Option.bind_some, show (sI T1 33 (nI X)).1 33 = nI X from sI_eq, notes_eq (t := i) (by omega) (by rw [sI_ne (by omega), a2.1 1 (by omega)]; exact hTo.2.1), Option.bind_some, hfl, Option.bind_some, show (sI (sJ (sI T1 33 (nI X)) 2 i (nI X).toInt64) 1 (nI (i + 1))).1 33 = nI X from rfl, s1]
        have hq16 : ((if nI g = 0 then (some (nI b)) else (some (nI X)) : Option (Int32))) = some (nI (if g = 0 then b else X)) := by
          rw [if0N (by omega)]; split <;> rfl
        rw [hq16, Option.bind_some, ← Option.bind_assoc, hfl2, Option.bind_some, nI_add, nI_add]
        rw [show X + g = (if g = 0 then X else X + 1) by rcases hg with q | q <;> subst q <;> rfl, show f + (1 - g) = (if g = 0 then f + 1 else f) by rcases hg with q | q <;> subst q <;> rfl]
        exact g2
    · -- too heavy: no try
      refine ⟨S, F, T, b, f, j + 1, L, i, by rw [Nat.sub_self, Nat.sub_zero], ?_, by omega, by omega, FrZ.rfl S, hN, by omega, hF, hJ, rfl, hTo, hb⟩
      unfold m_X9_follows_L15
      rw [lit32 3, ifleN (by omega) (by omega), if_neg (show ¬ 3 ≤ r by omega), in_no (by rw [t64, tiN (by omega)]; show _ ∨ (40 : Int) < L; omega), Option.bind_some, if_pos rfl]
