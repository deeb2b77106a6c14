/-! ===== layer B: the reference lays its rounds ===== -/
theorem cellN_lin (r f L b : Nat) : cellN r f L b = 7056 * r + 1764 * f + 42 * L + b := by unfold cellN; omega
/-- one round's cells: those with f failed, and L the least -/
def LaidL (D : Nat → Nat → Nat) (out : Nat) (beh : Nat → Nat) (T : St) (r f L : Nat) : Prop := ∀ b, b < L → canB r f L b = true → T.2.1 32 (cellN r f L b) = nI (fv D out beh (3 - r) f L b)
theorem Laid.keep {D : Nat → Nat → Nat} {out r : Nat} {beh : Nat → Nat} {T T' : St} (h : Laid D out beh T r) (e : ∀ y, 7056 * r ≤ y → y < 7056 * r + 7056 → T'.2.1 32 y = T.2.1 32 y) (hr : r ≤ 3) : Laid D out beh T' r := by
  intro f L b h1 h2 h3 h4 h5
  have hl := cellN_lin r f L b
  rw [e _ (by omega) (by omega)]
  exact h f L b h1 h2 h3 h4 h5
theorem lay32 {ib ab k l t s out r f L : Nat} {beh : Nat → Nat} {S T0 : St} (hv : VR ib ab k S T0) (hl : l < k) (ht : t < 3) (hH : LayH l t s out beh T0) (hr : r ≤ 3) (hr1 : 1 ≤ r) (hfr : f ≤ r) (hL1 : 1 ≤ L) (hL : L ≤ 41) (x3 : Int32) :
    ∀ d b n T, b + d = L → d + 61 ≤ n → FrF T0 T → (r < 3 → Laid (odN T0 l t) out beh T (r + 1)) → (∀ b', b' < b → canB r f L b' = true → T.2.1 32 (cellN r f L b') = nI (fv (odN T0 l t) out beh (3 - r) f L b')) →
      ∃ T', m_X9_laysRounds_L32 n T (nI l) (nI t) x3 (nI s) (nI r) (nI f) (nI L) (nI b) = some T' ∧ FrF T0 T' ∧ (∀ y, (y < cellN r f L 0 ∨ cellN r f L 0 + 42 ≤ y) → T'.2.1 32 y = T.2.1 32 y) ∧ LaidL (odN T0 l t) out beh T' r f L := by
  have hk := hv.1
  intro d
  induction d with
  | zero =>
    intro b n T hb hn hT hup hcl
    obtain ⟨m, rfl⟩ : ∃ m, n = m + 1 := ⟨n - 1, by omega⟩
    refine ⟨T, ?_, hT, fun _ _ => rfl, fun b' h1 h2 => hcl b' (by omega) h2⟩
    unfold m_X9_laysRounds_L32
    rw [if_pos (show nI L ≤ nI b by rw [leN (by omega) (by omega)]; omega)]
  | succ d ih =>
    intro b n T hb hn hT hup hcl
    obtain ⟨m, rfl⟩ : ∃ m, n = m + 1 := ⟨n - 1, by omega⟩
    have hlin := cellN_lin r f L b
    have hlin0 := cellN_lin r f L 0
    unfold m_X9_laysRounds_L32
    rw [if_neg (show ¬ nI L ≤ nI b by rw [leN (by omega) (by omega)]; omega), canBe9 T hr (by omega) hL1 hL (by omega), Option.bind_some]
    by_cases c : canB r f L b = true
    · rw [if_pos c, if_neg (show ¬ (1 : Int32) = 0 by decide)]
      have hod : odN T l t = odN T0 l t := congrFun (odN_eqT hT.eqt l) t
      obtain ⟨T1, e1, e2, e3⟩ := cell_val (n := m) (hv.congrT hT.eqt) hl ht (hH.fr hT) hr hr1 hfr hL1 hL (by omega) c (by omega) (fun q => by rw [hod]; exact hup q)
      rw [hod] at e1
      rw [e1, Option.bind_some, cell9, Option.bind_some, ckN (cellN_lt hr (by omega) hL (by omega)) (by omega), nmE, clN (by have := cellN_lt (r := r) (f := f) (L := L) (b := b) hr (by omega) hL (by omega); omega), s1]
      have hT1 : FrF T0 (sA T1 32 (cellN r f L b) (nI (fv (odN T0 l t) out beh (3 - r) f L b))) := (hT.trans e2).put _ _
      obtain ⟨T', g1, g2, g3, g4⟩ := ih (b + 1) m _ (by omega) (by omega) hT1 (fun q => (hup q).keep (fun y h1 h2 => by rw [sA_ne (by omega), e3]) (by omega)) (fun b' h1 h2 => by
        have hl' := cellN_lin r f L b'
        by_cases cb : b' = b
        · subst cb; exact sA_eq
        · rw [sA_ne (by omega), e3]; exact hcl b' (by omega) h2)
      refine ⟨T', g1, g2, fun y hy => ?_, g4⟩
      rw [g3 y hy, sA_ne (by omega), e3]
    · rw [if_neg c, if_pos rfl, s1]
      obtain ⟨T', g1, g2, g3, g4⟩ := ih (b + 1) m T (by omega) (by omega) hT hup (fun b' h1 h2 => by
        by_cases cb : b' = b
        · subst cb; exact absurd h2 c
        · exact hcl b' (by omega) h2)
      exact ⟨T', g1, g2, g3, g4⟩
theorem lay22 {ib ab k l t s out r f : Nat} {beh : Nat → Nat} {S T0 : St} (hv : VR ib ab k S T0) (hl : l < k) (ht : t < 3) (hH : LayH l t s out beh T0) (hr : r ≤ 3) (hr1 : 1 ≤ r) (hfr : f ≤ r) (x3 : Int32) :
    ∀ d L n T, L + d = 42 → 1 ≤ L → d + 110 ≤ n → FrF T0 T → (r < 3 → Laid (odN T0 l t) out beh T (r + 1)) → (∀ L', 1 ≤ L' → L' < L → LaidL (odN T0 l t) out beh T r f L') →
      ∃ T', m_X9_laysRounds_L22 n T (nI l) (nI t) x3 (nI s) (nI r) (nI f) (nI L) = some T' ∧ FrF T0 T' ∧ (∀ y, (y < cellN r f 0 0 ∨ cellN r f 0 0 + 1764 ≤ y) → T'.2.1 32 y = T.2.1 32 y) ∧ (∀ L', 1 ≤ L' → L' ≤ 41 → LaidL (odN T0 l t) out beh T' r f L') := by
  intro d
  induction d with
  | zero =>
    intro L n T hL hL1 hn hT hup hcl
    obtain ⟨m, rfl⟩ : ∃ m, n = m + 1 := ⟨n - 1, by omega⟩
    refine ⟨T, ?_, hT, fun _ _ => rfl, fun L' h1 h2 => hcl L' h1 (by omega)⟩
    unfold m_X9_laysRounds_L22
    rw [lit32 42, if_pos (show nI 42 ≤ nI L by rw [leN (by omega) (by omega)]; omega)]
  | succ d ih =>
    intro L n T hL hL1 hn hT hup hcl
    obtain ⟨m, rfl⟩ : ∃ m, n = m + 1 := ⟨n - 1, by omega⟩
    have hlin0 := cellN_lin r f L 0
    have hlin00 := cellN_lin r f 0 0
    obtain ⟨T1, e1, e2, e3, e4⟩ := lay32 hv hl ht hH hr hr1 hfr hL1 (show L ≤ 41 by omega) x3 L 0 m T (by omega) (by omega) hT hup (fun b' h => absurd h (by omega))
    obtain ⟨T', g1, g2, g3, g4⟩ := ih (L + 1) m T1 (by omega) (by omega) (by omega) e2 (fun q => (hup q).keep (fun y h1 h2 => e3 y (by omega)) (by omega)) (fun L' h1 h2 => by
      by_cases c : L' = L
      · subst c; exact e4
      · intro b' h3 h4
        have hl' := cellN_lin r f L' b'
        rw [e3 _ (by omega)]
        exact hcl L' h1 (by omega) b' h3 h4)
    refine ⟨T', ?_, g2, fun y hy => ?_, g4⟩
    · unfold m_X9_laysRounds_L22
      rw [lit32 42, if_neg (show ¬ nI 42 ≤ nI L by rw [leN (by omega) (by omega)]; omega), show m_X9_laysRounds_L32 m T (nI l) (nI t) x3 (nI s) (nI r) (nI f) (nI L) 0 = _ from e1, Option.bind_some, s1]
      exact g1
    · rw [g3 y hy, e3 y (by omega)]
theorem lay12 {ib ab k l t s out r : Nat} {beh : Nat → Nat} {S T0 : St} (hv : VR ib ab k S T0) (hl : l < k) (ht : t < 3) (hH : LayH l t s out beh T0) (hr : r ≤ 3) (hr1 : 1 ≤ r) (x3 : Int32) :
    ∀ d f n T, f + d = r + 1 → d + 160 ≤ n → FrF T0 T → (r < 3 → Laid (odN T0 l t) out beh T (r + 1)) → (∀ f' L', f' < f → 1 ≤ L' → L' ≤ 41 → LaidL (odN T0 l t) out beh T r f' L') →
      ∃ T', m_X9_laysRounds_L12 n T (nI l) (nI t) x3 (nI s) (nI r) (nI f) = some T' ∧ FrF T0 T' ∧ (∀ y, (y < 7056 * r ∨ 7056 * r + 7056 ≤ y) → T'.2.1 32 y = T.2.1 32 y) ∧ Laid (odN T0 l t) out beh T' r := by
  intro d
  induction d with
  | zero =>
    intro f n T hf hn hT hup hcl
    obtain ⟨m, rfl⟩ : ∃ m, n = m + 1 := ⟨n - 1, by omega⟩
    refine ⟨T, ?_, hT, fun _ _ => rfl, fun f' L' b' h1 h2 h3 h4 h5 => hcl f' L' (by omega) h2 h3 b' h4 h5⟩
    unfold m_X9_laysRounds_L12
    rw [if_pos (show nI r < nI f by rw [ltN (by omega) (by omega)]; omega)]
  | succ d ih =>
    intro f n T hf hn hT hup hcl
    obtain ⟨m, rfl⟩ : ∃ m, n = m + 1 := ⟨n - 1, by omega⟩
    have hlin00 := cellN_lin r f 0 0
    obtain ⟨T1, e1, e2, e3, e4⟩ := lay22 hv hl ht hH hr hr1 (show f ≤ r by omega) x3 41 1 m T (by omega) (by omega) (by omega) hT hup (fun L' h1 h2 => absurd h2 (by omega))
    obtain ⟨T', g1, g2, g3, g4⟩ := ih (f + 1) m T1 (by omega) (by omega) e2 (fun q => (hup q).keep (fun y h1 h2 => e3 y (by omega)) (by omega)) (fun f' L' h1 h2 h3 => by
      by_cases c : f' = f
      · subst c; exact e4 L' h2 h3
      · intro b' h4 h5
        have hl' := cellN_lin r f' L' b'
        rw [e3 _ (by omega)]
        exact hcl f' L' (by omega) h2 h3 b' h4 h5)
    refine ⟨T', ?_, g2, fun y hy => ?_, g4⟩
    · unfold m_X9_laysRounds_L12
      rw [if_neg (show ¬ nI r < nI f by rw [ltN (by omega) (by omega)]; omega), show m_X9_laysRounds_L22 m T (nI l) (nI t) x3 (nI s) (nI r) (nI f) 1 = _ from e1, Option.bind_some, s1]
      exact g1
    · rw [g3 y hy, e3 y (by omega)]
theorem lay3 {ib ab k l t s out fr : Nat} {beh : Nat → Nat} {S T0 : St} (hv : VR ib ab k S T0) (hl : l < k) (ht : t < 3) (hH : LayH l t s out beh T0) :
    ∀ d r n T, r = fr + d → r ≤ 3 → d + 170 ≤ n → FrF T0 T → (∀ r', r < r' → r' ≤ 3 → Laid (odN T0 l t) out beh T r') →
      ∃ T', m_X9_laysRounds_L3 n T (nI l) (nI t) (nI fr) (nI s) (nI r) = some T' ∧ FrF T0 T' ∧ (∀ r', fr < r' → r' ≤ 3 → Laid (odN T0 l t) out beh T' r') := by
  intro d
  induction d with
  | zero =>
    intro r n T hr hr3 hn hT hup
    obtain ⟨m, rfl⟩ : ∃ m, n = m + 1 := ⟨n - 1, by omega⟩
    refine ⟨T, ?_, hT, fun r' h1 h2 => hup r' (by omega) h2⟩
    unfold m_X9_laysRounds_L3
    rw [if_pos (show nI r ≤ nI fr by rw [leN (by omega) (by omega)]; omega)]
  | succ d ih =>
    intro r n T hr hr3 hn hT hup
    obtain ⟨m, rfl⟩ : ∃ m, n = m + 1 := ⟨n - 1, by omega⟩
    obtain ⟨T1, e1, e2, e3, e4⟩ := lay12 hv hl ht hH hr3 (show 1 ≤ r by omega) (nI fr) (r + 1) 0 m T (by omega) (by omega) hT (fun q => hup (r + 1) (by omega) (by omega)) (fun f' L' h1 => absurd h1 (by omega))
    obtain ⟨q, rfl⟩ : ∃ q, r = q + 1 := ⟨r - 1, by omega⟩
    obtain ⟨T', g1, g2, g3⟩ := ih q m T1 (by omega) (by omega) (by omega) e2 (fun r' h1 h2 => by
      by_cases c : r' = q + 1
      · subst c; exact e4
      · exact (hup r' (by omega) h2).keep (fun y h3 h4 => e3 y (by omega)) h2)
    refine ⟨T', ?_, g2, g3⟩
    unfold m_X9_laysRounds_L3
    rw [if_neg (show ¬ nI (q + 1) ≤ nI fr by rw [leN (by omega) (by omega)]; omega), show m_X9_laysRounds_L12 m T (nI l) (nI t) (nI fr) (nI s) (nI (q + 1)) 0 = _ from e1, Option.bind_some, pk_m1]
    exact g1
theorem lays9 {ib ab k l t s out fr n : Nat} {beh : Nat → Nat} {S T : St} (hv : VR ib ab k S T) (hl : l < k) (ht : t < 3) (hH : LayH l t s out beh T) (hfr : fr ≤ 3) (hn : 180 ≤ n) :
    ∃ T', m_X9_laysRounds n T (nI l) (nI t) (nI fr) (nI s) = some T' ∧ FrF T T' ∧ (∀ r', fr < r' → r' ≤ 3 → Laid (odN T l t) out beh T' r') := by
  obtain ⟨T', e1, e2, e3⟩ := lay3 hv hl ht hH (fr := fr) (3 - fr) 3 n T (by omega) (by omega) (by omega) (FrF.rfl T) (fun r' h1 h2 => absurd h1 (by omega))
  refine ⟨T', ?_, e2, e3⟩
  unfold m_X9_laysRounds
  rw [show m_X9_laysRounds_L3 n T (nI l) (nI t) (nI fr) (nI s) 3 = _ from e1]
  rfl
/-- a try is chosen from cells that are laid -/
theorem choice9 {ib ab k l t s out r f L b n : Nat} {beh : Nat → Nat} {S T T1 : St} (hv : VR ib ab k S T) (hl : l < k) (ht : t < 3) (hH : LayH l t s out beh T) (hF : FrF T T1) (hr : r ≤ 2) (hfr : f ≤ r) (hfb : f = r → b = 0) (hL1 : 1 ≤ L) (hL : L ≤ 40) (hb : b < L) (hn : 60 ≤ n) (hlaid : Laid (odN T l t) out beh T1 (r + 1)) :
    m_X9_triesBest n T1 (nI l) (nI t) (nI r) (nI f) (nI L) (nI b) = some (nI (bst (fg (odN T l t) out beh (2 - r) f b) (40 - L) L).1, sI T1 33 (nI (bst (fg (odN T l t) out beh (2 - r) f b) (40 - L) L).2)) := by
  have hDD : ∀ x f, x ≤ 40 → f ≤ 3 → odN T l t x f ≤ 1000 := fun x f hx hf => (od_nat hv hl ht hx hf).2
  have hvle : ∀ j f L b, f + j ≤ 3 → b ≤ 40 → fv (odN T l t) out beh j f L b ≤ 1000000 := fv_le hDD hH.1 hH.2.1
  have hod : odN T1 l t = odN T l t := congrFun (odN_eqT hF.eqt l) t
  rw [best9 (A := fun x => fv (odN T l t) out beh (2 - r) f (x + 1) x) (B := fun x => fv (odN T l t) out beh (2 - r) (f + 1) x b) (hv.congrT hF.eqt) hl ht hr hfr (by omega) hL1 hL hn (fun x h1 h2 => ⟨by
    have := hlaid f (x + 1) x (by omega) (by omega) (by omega) (by omega) (canB_mk (fun _ => rfl) (fun _ => Or.inl (by omega)))
    rw [show 3 - (r + 1) = 2 - r by omega] at this
    exact this, hvle _ _ _ _ (by omega) h2⟩) (fun x h1 h2 => ⟨by
    have := hlaid (f + 1) x b (by omega) (by omega) (by omega) (by omega) (canB_mk (fun q => absurd q (by omega)) (fun _ => by
      by_cases q : f < r
      · exact Or.inl (by omega)
      · exact Or.inr (hfb (by omega))))
    rw [show 3 - (r + 1) = 2 - r by omega] at this
    exact this, hvle _ _ _ _ (by omega) (by omega)⟩), hod]
  rfl
/-! what is behind -/
def FrB (T T' : St) : Prop := (∀ i, i ≠ 33 → T'.1 i = T.1 i) ∧ (∀ a, a ≠ 31 → a ≠ 32 → T'.2.1 a = T.2.1 a) ∧ T'.2.2 = T.2.2
theorem FrB.rfl (T : St) : FrB T T := ⟨fun _ _ => Eq.refl _, fun _ _ _ => Eq.refl _, Eq.refl _⟩
theorem FrB.trans {S S' S2 : St} (h : FrB S S') (g : FrB S' S2) : FrB S S2 := ⟨fun i a => (g.1 i a).trans (h.1 i a), fun i a b => (g.2.1 i a b).trans (h.2.1 i a b), g.2.2.trans h.2.2⟩
theorem FrF.fb {T T' : St} (h : FrF T T') : FrB T T' := ⟨h.1, fun a _ b => h.2.1 a b, h.2.2⟩
theorem FrB.eqt {T T' : St} (h : FrB T T') : EqT T T' := ⟨⟨h.1 3 (by omega), h.1 10 (by omega), h.1 13 (by omega), h.1 14 (by omega), h.1 18 (by omega)⟩, fun a _ _ => h.2.1 a (by omega) (by omega), h.2.1 11 (by omega) (by omega), h.2.1 15 (by omega) (by omega), h.2.1 17 (by omega) (by omega)⟩
theorem FrB.put {T T' : St} (h : FrB T T') (y : Nat) (v : Int32) : FrB T (sA T' 31 y v) := ⟨h.1, fun a ha hb => (sA_row ha).trans (h.2.1 a ha hb), h.2.2⟩
/-- what is laid of the lifts behind t -/
def BehK (D : Nat → Nat → Nat → Nat) (out : Nat) (W : Nat → Nat) (T : St) (t : Nat) : Prop := ∀ t' s', t < t' → t' ≤ 3 → s' ≤ 40 * t' → T.2.1 31 (121 * t' + s') = nI (fS D out W (3 - t') s')
theorem ends9 {t b s : Nat} {T : St} {D : Nat → Nat → Nat → Nat} {W : Nat → Nat} (ht : t < 3) (hs : s ≤ 40 * t) (hb : b ≤ 40) (h28 : T.2.1 28 0 = nI (W 0)) (hB : BehK D (W 0) W T t) : m_X9_ends T (nI t) (nI b) (nI s) = some (nI (fE (W 0) (fun b => fS D (W 0) W (2 - t) (s + b)) b)) := by
  unfold m_X9_ends fE
  rw [if0N (by omega)]
  by_cases c : b = 0
  · rw [if_pos c, if_pos c, show ∀ x : Option Int32, ck 0 122 x = x from fun x => rfl, show (0 : Int32).toNatClampNeg = 0 from rfl, h28]
  · rw [if_neg c, if_neg c, s1, lit32 121, pk_mul, nI_add, nI_add, ckN (by omega) (by omega), clN (by omega), show 121 * (t + 1) + s + b = 121 * (t + 1) + (s + b) by omega, hB (t + 1) (s + b) (by omega) (by omega) (by omega), show 3 - (t + 1) = 2 - t by omega]
theorem layH_of {ib ab k l t s : Nat} {S T : St} {W : Nat → Nat} (hv : VR ib ab k S T) (hl : l < k) (ht : t < 3) (hs : s ≤ 40 * t) (h28 : T.2.1 28 0 = nI (W 0)) (hWle : ∀ x, x ≤ 120 → W x ≤ 1000000) (hB : BehK (odN T l) (W 0) W T t) : LayH l t s (W 0) (fun b => fS (odN T l) (W 0) W (2 - t) (s + b)) T := by
  have hDD : ∀ t x f, t < 3 → x ≤ 40 → f ≤ 3 → odN T l t x f ≤ 1000 := fun t x f ht hx hf => (od_nat hv hl ht hx hf).2
  refine ⟨hWle 0 (by omega), fun b hb => fS_le (B := 120) hDD (hWle 0 (by omega)) hWle (2 - t) (s + b) (by omega) (by omega), fun T' g b hb => ?_⟩
  apply ends9 ht hs hb
  · rw [g.2.1 28 (by omega)]; exact h28
  · intro t' s' h1 h2 h3
    rw [g.2.1 31 (by omega)]
    exact hB t' s' h1 h2 h3
theorem beh2_L {T0 : St} {W : Nat → Nat} (h28 : ∀ x, x ≤ 120 → T0.2.1 28 x = nI (W x)) (x1 x2 : Int32) : ∀ d x n T, x + d = 121 → d + 1 ≤ n → FrB T0 T → (∀ y, y < x → T.2.1 31 (363 + y) = nI (W y)) → ∃ T', m_X9_laysBehind_L2 n T x1 x2 (nI x) = some T' ∧ FrB T0 T' ∧ (∀ y, y ≤ 120 → T'.2.1 31 (363 + y) = nI (W y)) := by
  intro d
  induction d with
  | zero =>
    intro x n T hx hn hT h
    obtain ⟨m, rfl⟩ : ∃ m, n = m + 1 := ⟨n - 1, by omega⟩
    refine ⟨T, ?_, hT, fun y hy => h y (by omega)⟩
    unfold m_X9_laysBehind_L2
    rw [lit32 121, if_pos (show nI 121 ≤ nI x by rw [leN (by omega) (by omega)]; omega)]
  | succ d ih =>
    intro x n T hx hn hT h
    obtain ⟨m, rfl⟩ : ∃ m, n = m + 1 := ⟨n - 1, by omega⟩
    obtain ⟨T', e1, e2, e3⟩ := ih (x + 1) m (sA T 31 (363 + x) (nI (W x))) (by omega) (by omega) (hT.put _ _) (fun y hy => by
      by_cases c : y = x
      · subst c; exact sA_eq
      · rw [sA_ne (by omega)]; exact h y (by omega))
    refine ⟨T', ?_, e2, e3⟩
    unfold m_X9_laysBehind_L2
    rw [lit32 121, if_neg (show ¬ nI 121 ≤ nI x by rw [leN (by omega) (by omega)]; omega), lit32 363, nI_add, ckN (by omega) (by omega), ckN (by omega) (by omega), nmE, clN (by omega), clN (by omega), hT.2.1 28 (by omega) (by omega), h28 x (by omega), s1]
    exact e1
theorem beh40_L {ib ab k l t : Nat} {S T0 : St} {W : Nat → Nat} (hv : VR ib ab k S T0) (hl : l < k) (ht : t < 3) (h28 : T0.2.1 28 0 = nI (W 0)) (hWle : ∀ x, x ≤ 120 → W x ≤ 1000000) (x2 : Int32) :
    ∀ d s n T, s + d = 40 * t + 1 → d + 190 ≤ n → FrB T0 T → BehK (odN T0 l) (W 0) W T t → (∀ s', s' < s → T.2.1 31 (121 * t + s') = nI (fS (odN T0 l) (W 0) W (3 - t) s')) →
      ∃ T', m_X9_laysBehind_L40 n T (nI l) x2 (nI t) (nI s) = some T' ∧ FrB T0 T' ∧ BehK (odN T0 l) (W 0) W T' t ∧ (∀ s', s' ≤ 40 * t → T'.2.1 31 (121 * t + s') = nI (fS (odN T0 l) (W 0) W (3 - t) s')) := by
  intro d
  induction d with
  | zero =>
    intro s n T hs hn hT hB h
    obtain ⟨m, rfl⟩ : ∃ m, n = m + 1 := ⟨n - 1, by omega⟩
    refine ⟨T, ?_, hT, hB, fun s' hs' => h s' (by omega)⟩
    unfold m_X9_laysBehind_L40
    rw [lit32 40, pk_mul, if_pos (show nI (40 * t) < nI s by rw [ltN (by omega) (by omega)]; omega)]
  | succ d ih =>
    intro s n T hs hn hT hB h
    obtain ⟨m, rfl⟩ : ∃ m, n = m + 1 := ⟨n - 1, by omega⟩
    have hvT := hv.congrT hT.eqt
    have hod : odN T l = odN T0 l := odN_eqT hT.eqt l
    have hH : LayH l t s (W 0) (fun b => fS (odN T l) (W 0) W (2 - t) (s + b)) T := layH_of hvT hl ht (by omega) (by rw [hT.2.1 28 (by omega) (by omega)]; exact h28) hWle (by rw [hod]; exact hB)
    obtain ⟨T1, a1, a2, a3⟩ := lays9 (n := m) (fr := 0) hvT hl ht hH (by omega) (by omega)
    have hch := choice9 (n := m) (r := 0) (f := 0) (L := 1) (b := 0) hvT hl ht hH a2 (by omega) (by omega) (fun _ => rfl) (by omega) (by omega) (by omega) (by omega) (a3 1 (by omega) (by omega))
    have ev : (bst (fg (odN T l t) (W 0) (fun b => fS (odN T l) (W 0) W (2 - t) (s + b)) (2 - 0) 0 0) (40 - 1) 1).1 = fS (odN T0 l) (W 0) W (3 - t) s := by
      rw [← fv_go (j := 2) (L := 1) (by omega), hod, show 3 - t = (2 - t) + 1 by omega]
      show _ = fv (odN T0 l (2 - (2 - t))) (W 0) (fun b => fS (odN T0 l) (W 0) W (2 - t) (s + b)) 3 0 1 0
      rw [show 2 - (2 - t) = t by omega]
    rw [ev] at hch
    obtain ⟨ld, hld⟩ : ∃ ld, nI (bst (fg (odN T l t) (W 0) (fun b => fS (odN T l) (W 0) W (2 - t) (s + b)) (2 - 0) 0 0) (40 - 1) 1).2 = ld := ⟨_, rfl⟩
    rw [hld] at hch
    have hT2 : FrB T0 (sA (sI T1 33 ld) 31 (121 * t + s) (nI (fS (odN T0 l) (W 0) W (3 - t) s))) := (hT.trans (a2.set ld).fb).put _ _
    have e31 : T1.2.1 31 = T.2.1 31 := a2.2.1 31 (by omega)
    obtain ⟨T', g1, g2, g3, g4⟩ := ih (s + 1) m _ (by omega) (by omega) hT2 (fun t' s' h1 h2 h3 => by
      rw [sA_ne (by omega)]
      show T1.2.1 31 _ = _
      rw [e31]; exact hB t' s' h1 h2 h3) (fun s' hs' => by
      by_cases c : s' = s
      · subst c; exact sA_eq
      · rw [sA_ne (by omega)]
        show T1.2.1 31 _ = _
        rw [e31]; exact h s' (by omega))
    refine ⟨T', ?_, g2, g3, g4⟩
    unfold m_X9_laysBehind_L40
    rw [lit32 40, pk_mul, if_neg (show ¬ nI (40 * t) < nI s by rw [ltN (by omega) (by omega)]; omega), show m_X9_laysRounds m T (nI l) (nI t) 0 (nI s) = _ from a1, Option.bind_some, show m_X9_triesBest m T1 (nI l) (nI t) 0 0 1 0 = _ from hch, Option.bind_some, lit32 121, pk_mul, nI_add, ckN (by omega) (by omega), nmE, clN (by omega), s1]
    exact g1
theorem beh32_L {ib ab k l t0 : Nat} {S T0 : St} {W : Nat → Nat} (hv : VR ib ab k S T0) (hl : l < k) (h28 : T0.2.1 28 0 = nI (W 0)) (hWle : ∀ x, x ≤ 120 → W x ≤ 1000000) :
    ∀ d t n T, t = t0 + d → t ≤ 2 → d + 280 ≤ n → FrB T0 T → BehK (odN T0 l) (W 0) W T t → ∃ T', m_X9_laysBehind_L32 n T (nI l) (nI t0) (nI t) = some T' ∧ FrB T0 T' ∧ BehK (odN T0 l) (W 0) W T' t0 := by
  intro d
  induction d with
  | zero =>
    intro t n T ht ht2 hn hT hB
    obtain ⟨m, rfl⟩ : ∃ m, n = m + 1 := ⟨n - 1, by omega⟩
    refine ⟨T, ?_, hT, by rw [show t0 = t by omega]; exact hB⟩
    unfold m_X9_laysBehind_L32
    rw [if_pos (show nI t ≤ nI t0 by rw [leN (by omega) (by omega)]; omega)]
  | succ d ih =>
    intro t n T ht ht2 hn hT hB
    obtain ⟨m, rfl⟩ : ∃ m, n = m + 1 := ⟨n - 1, by omega⟩
    obtain ⟨T1, e1, e2, e3, e4⟩ := beh40_L hv hl (show t < 3 by omega) h28 hWle (nI t0) (40 * t + 1) 0 m T (by omega) (by omega) hT hB (fun s' h => absurd h (by omega))
    obtain ⟨q, rfl⟩ : ∃ q, t = q + 1 := ⟨t - 1, by omega⟩
    obtain ⟨T', g1, g2, g3⟩ := ih q m T1 (by omega) (by omega) (by omega) e2 (fun t' s' h1 h2 h3 => by
      by_cases c : t' = q + 1
      · subst c; exact e4 s' h3
      · exact e3 t' s' (by omega) h2 h3)
    refine ⟨T', ?_, g2, g3⟩
    unfold m_X9_laysBehind_L32
    rw [if_neg (show ¬ nI (q + 1) ≤ nI t0 by rw [leN (by omega) (by omega)]; omega), show m_X9_laysBehind_L40 m T (nI l) (nI t0) (nI (q + 1)) 0 = _ from e1, Option.bind_some, pk_m1]
    exact g1
theorem behind9 {ib ab k l t n : Nat} {S T : St} {W : Nat → Nat} (hv : VR ib ab k S T) (hl : l < k) (ht : t < 3) (h28 : ∀ x, x ≤ 120 → T.2.1 28 x = nI (W x)) (hWle : ∀ x, x ≤ 120 → W x ≤ 1000000) (hn : 300 ≤ n) :
    ∃ T', m_X9_laysBehind n T (nI l) (nI t) = some T' ∧ FrB T T' ∧ BehK (odN T l) (W 0) W T' t := by
  obtain ⟨T1, a1, a2, a3⟩ := beh2_L h28 (nI l) (nI t) 121 0 n T (by omega) (by omega) (FrB.rfl T) (fun y hy => absurd hy (by omega))
  obtain ⟨T', b1, b2, b3⟩ := beh32_L hv hl (h28 0 (by omega)) hWle (t0 := t) (2 - t) 2 n T1 (by omega) (by omega) (by omega) a2 (fun t' s' h1 h2 h3 => by
    have : t' = 3 := by omega
    subst this
    exact a3 s' h3)
  refine ⟨T', ?_, b2, b3⟩
  unfold m_X9_laysBehind
  rw [show m_X9_laysBehind_L2 n T (nI l) (nI t) 0 = _ from a1, Option.bind_some, show m_X9_laysBehind_L32 n T1 (nI l) (nI t) 2 = _ from b1]
  rfl
