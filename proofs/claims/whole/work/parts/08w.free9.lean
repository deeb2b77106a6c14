/-! ===== layer B: the best loads; the reference ===== -/
/-- the best of the d + 1 loads from x on, the lowest of those -/
def bst (g : Nat → Nat) : Nat → Nat → Nat × Nat
  | 0, x => (g x, x)
  | d + 1, x => if g x < (bst g d (x + 1)).1 then bst g d (x + 1) else (g x, x)
theorem bst_congr {g g' : Nat → Nat} : ∀ d x, (∀ y, x ≤ y → y ≤ x + d → g y = g' y) → bst g d x = bst g' d x := by
  intro d
  induction d with
  | zero => intro x h; show (g x, x) = (g' x, x); rw [h x (by omega) (by omega)]
  | succ d ih =>
    intro x h
    show (if g x < (bst g d (x + 1)).1 then bst g d (x + 1) else (g x, x)) = (if g' x < (bst g' d (x + 1)).1 then bst g' d (x + 1) else (g' x, x))
    rw [h x (by omega) (by omega), ih (x + 1) (fun y h1 h2 => h y (by omega) (by omega))]
theorem bst_le {g : Nat → Nat} {M : Nat} : ∀ d x, (∀ y, x ≤ y → y ≤ x + d → g y ≤ M) → (bst g d x).1 ≤ M := by
  intro d
  induction d with
  | zero => intro x h; exact h x (by omega) (by omega)
  | succ d ih =>
    intro x h
    show (if g x < (bst g d (x + 1)).1 then bst g d (x + 1) else (g x, x)).1 ≤ M
    split
    · exact ih (x + 1) (fun y h1 h2 => h y (by omega) (by omega))
    · exact h x (by omega) (by omega)
theorem bst_in {g : Nat → Nat} : ∀ d x, x ≤ (bst g d x).2 ∧ (bst g d x).2 ≤ x + d := by
  intro d
  induction d with
  | zero => intro x; exact ⟨Nat.le_refl _, Nat.le_refl _⟩
  | succ d ih =>
    intro x
    show x ≤ (if g x < (bst g d (x + 1)).1 then bst g d (x + 1) else (g x, x)).2 ∧ (if g x < (bst g d (x + 1)).1 then bst g d (x + 1) else (g x, x)).2 ≤ x + (d + 1)
    have := ih (x + 1)
    split
    · omega
    · exact ⟨Nat.le_refl _, by show x ≤ _; omega⟩
theorem bst_const {g : Nat → Nat} {c : Nat} : ∀ d x, (∀ y, x ≤ y → y ≤ x + d → g y = c) → bst g d x = (c, x) := by
  intro d
  induction d with
  | zero => intro x h; show (g x, x) = _; rw [h x (by omega) (by omega)]
  | succ d ih =>
    intro x h
    show (if g x < (bst g d (x + 1)).1 then bst g d (x + 1) else (g x, x)) = _
    rw [ih (x + 1) (fun y h1 h2 => h y (by omega) (by omega)), h x (by omega) (by omega), if_neg (by show ¬ c < c; omega)]
theorem bst_mono {g g' : Nat → Nat} : ∀ d x, (∀ y, x ≤ y → y ≤ x + d → g y ≤ g' y) → (bst g d x).1 ≤ (bst g' d x).1 := by
  intro d
  induction d with
  | zero => intro x h; exact h x (by omega) (by omega)
  | succ d ih =>
    intro x h
    have h1 := h x (by omega) (by omega)
    have h2 := ih (x + 1) (fun y a b => h y (by omega) (by omega))
    show (if g x < (bst g d (x + 1)).1 then bst g d (x + 1) else (g x, x)).1 ≤ (if g' x < (bst g' d (x + 1)).1 then bst g' d (x + 1) else (g' x, x)).1
    split
    · split
      · exact h2
      · show (bst g d (x + 1)).1 ≤ g' x; omega
    · split
      · show g x ≤ (bst g' d (x + 1)).1; omega
      · exact h1
/-- what is worth the end of a lift -/
def fE (out : Nat) (beh : Nat → Nat) (b : Nat) : Nat := if b = 0 then out else beh b
/-- the best value: j tries left, f failed, the least load, the best -/
def fv (D : Nat → Nat → Nat) (out : Nat) (beh : Nat → Nat) : Nat → Nat → Nat → Nat → Nat
  | 0, _, _, b => fE out beh b
  | j + 1, f, L, b => if 40 < L then fE out beh b else (bst (fun x => mixN (D x f) (fv D out beh j f (x + 1) x) (fv D out beh j (f + 1) x b)) (40 - L) L).1
def fg (D : Nat → Nat → Nat) (out : Nat) (beh : Nat → Nat) (j f b x : Nat) : Nat := mixN (D x f) (fv D out beh j f (x + 1) x) (fv D out beh j (f + 1) x b)
def fS (D : Nat → Nat → Nat → Nat) (out : Nat) (W : Nat → Nat) : Nat → Nat → Nat
  | 0 => fun s => W s
  | d + 1 => fun s => fv (D (2 - d)) out (fun b => fS D out W d (s + b)) 3 0 1 0
theorem fv_go {D : Nat → Nat → Nat} {out : Nat} {beh : Nat → Nat} {j f L b : Nat} (h : L ≤ 40) : fv D out beh (j + 1) f L b = (bst (fg D out beh j f b) (40 - L) L).1 := by
  show (if 40 < L then fE out beh b else (bst (fun x => mixN (D x f) (fv D out beh j f (x + 1) x) (fv D out beh j (f + 1) x b)) (40 - L) L).1) = _
  rw [if_neg (by omega)]
  rfl
theorem fv_hi {D : Nat → Nat → Nat} {out : Nat} {beh : Nat → Nat} {j f L b : Nat} (h : 40 < L ∨ j = 0) : fv D out beh j f L b = fE out beh b := by
  cases j with
  | zero => rfl
  | succ j =>
    show (if 40 < L then fE out beh b else _) = _
    rw [if_pos (by omega)]
theorem fE_le {out M b : Nat} {beh : Nat → Nat} (ho : out ≤ M) (hb : beh b ≤ M) : fE out beh b ≤ M := by
  unfold fE
  split
  · exact ho
  · exact hb
theorem fv_le {D : Nat → Nat → Nat} {out M : Nat} {beh : Nat → Nat} (hD : ∀ x f, x ≤ 40 → f ≤ 3 → D x f ≤ 1000) (ho : out ≤ M) (hb : ∀ b, b ≤ 40 → beh b ≤ M) : ∀ j f L b, f + j ≤ 3 → b ≤ 40 → fv D out beh j f L b ≤ M := by
  intro j
  induction j with
  | zero => intro f L b _ h; exact fE_le ho (hb b h)
  | succ j ih =>
    intro f L b hf h
    by_cases c : 40 < L
    · rw [fv_hi (Or.inl c)]; exact fE_le ho (hb b h)
    · rw [fv_go (by omega)]
      exact bst_le _ _ (fun y h1 h2 => mixN_le (hD y f (by omega) (by omega)) (ih f (y + 1) y (by omega) (by omega)) (ih (f + 1) y b (by omega) h))
theorem fS_le {D : Nat → Nat → Nat → Nat} {out M B : Nat} {W : Nat → Nat} (hD : ∀ t x f, t < 3 → x ≤ 40 → f ≤ 3 → D t x f ≤ 1000) (ho : out ≤ M) (hW : ∀ x, x ≤ B → W x ≤ M) : ∀ d s, d ≤ 3 → s + 40 * d ≤ B → fS D out W d s ≤ M := by
  intro d
  induction d with
  | zero => intro s _ h; exact hW s (by omega)
  | succ d ih =>
    intro s h1 h2
    exact fv_le (fun x f => hD (2 - d) x f (by omega)) ho (fun b hb => ih (s + b) (by omega) (by omega)) 3 0 1 0 (by omega) (by omega)
theorem fv_congr {D : Nat → Nat → Nat} {out : Nat} {beh beh' : Nat → Nat} (hb : ∀ b, b ≤ 40 → beh b = beh' b) : ∀ j f L b, b ≤ 40 → fv D out beh j f L b = fv D out beh' j f L b := by
  intro j
  induction j with
  | zero => intro f L b h; show fE out beh b = fE out beh' b; unfold fE; rw [hb b h]
  | succ j ih =>
    intro f L b h
    by_cases c : 40 < L
    · rw [fv_hi (Or.inl c), fv_hi (Or.inl c)]; unfold fE; rw [hb b h]
    · rw [fv_go (by omega), fv_go (by omega)]
      congr 1
      apply bst_congr
      intro y h1 h2
      unfold fg
      rw [ih f (y + 1) y (by omega), ih (f + 1) y b h]
theorem fS_congr {D : Nat → Nat → Nat → Nat} {out B : Nat} {W W' : Nat → Nat} (hW : ∀ x, x ≤ B → W x = W' x) : ∀ d s, s + 40 * d ≤ B → fS D out W d s = fS D out W' d s := by
  intro d
  induction d with
  | zero => intro s h; exact hW s (by omega)
  | succ d ih =>
    intro s h2
    exact fv_congr (fun b hb => ih (s + b) (by omega)) 3 0 1 0 (by omega)
/-! the reference's tables -/
def FrF (T T' : St) : Prop := (∀ i, i ≠ 33 → T'.1 i = T.1 i) ∧ (∀ a, a ≠ 32 → T'.2.1 a = T.2.1 a) ∧ T'.2.2 = T.2.2
theorem FrF.rfl (T : St) : FrF T T := ⟨fun _ _ => Eq.refl _, fun _ _ => Eq.refl _, Eq.refl _⟩
theorem FrF.trans {S S' S2 : St} (h : FrF S S') (g : FrF S' S2) : FrF S S2 := ⟨fun i a => (g.1 i a).trans (h.1 i a), fun i a => (g.2.1 i a).trans (h.2.1 i a), g.2.2.trans h.2.2⟩
theorem FrF.eqt {T T' : St} (h : FrF T T') : EqT T T' := ⟨⟨h.1 3 (by omega), h.1 10 (by omega), h.1 13 (by omega), h.1 14 (by omega), h.1 18 (by omega)⟩, fun a _ _ => h.2.1 a (by omega), h.2.1 11 (by omega), h.2.1 15 (by omega), h.2.1 17 (by omega)⟩
theorem FrF.set {T T' : St} (h : FrF T T') (v : Int32) : FrF T (sI T' 33 v) := ⟨fun i hi => (sI_ne hi).trans (h.1 i hi), h.2.1, h.2.2⟩
theorem FrF.put {T T' : St} (h : FrF T T') (y : Nat) (v : Int32) : FrF T (sA T' 32 y v) := ⟨h.1, fun a ha => (sA_row ha).trans (h.2.1 a ha), h.2.2⟩
def cellN (r f L b : Nat) : Nat := 42 * (42 * (4 * r + f) + L) + b
theorem cellN_lt {r f L b : Nat} (hr : r ≤ 3) (hf : f ≤ 3) (hL : L ≤ 41) (hb : b ≤ 41) : cellN r f L b < 28224 := by
  have h1 : 4 * r + f ≤ 15 := by omega
  have h2 : 42 * (4 * r + f) + L ≤ 671 := by omega
  unfold cellN
  omega
theorem cell9 (T : St) (r f L b : Nat) : m_X9_cell T (nI r) (nI f) (nI L) (nI b) = some (nI (cellN r f L b)) := by
  unfold m_X9_cell cellN
  rw [lit32 42, lit32 4, pk_mul, nI_add, pk_mul, nI_add, pk_mul, nI_add]
theorem sI_sI (T : St) (k : Nat) (a b : Int32) : sI (sI T k a) k b = sI T k b := by
  apply Prod.ext
  · funext j
    show (sI (sI T k a) k b).1 j = (sI T k b).1 j
    by_cases c : j = k
    · subst c; rw [sI_eq, sI_eq]
    · rw [sI_ne c, sI_ne c, sI_ne c]
  · rfl
theorem mn41 {x : Nat} (h : x ≤ 40) : mn 41 (nI x + 1) = nI (x + 1) := by
  unfold mn
  rw [s1, lit32 41, ifltN (by omega) (by omega)]
  by_cases c : x + 1 < 41
  · rw [if_pos c]
  · rw [if_neg c, show x + 1 = 41 by omega]
theorem best_step {ib ab k l t r f b : Nat} {S T0 : St} {A B : Nat → Nat} (hv : VR ib ab k S T0) (hl : l < k) (ht : t < 3) (hr : r ≤ 2) (hf : f ≤ 3) (hfr : f ≤ r) (hb : b ≤ 40) {L0 : Nat} (hA : ∀ x, L0 ≤ x → x ≤ 40 → T0.2.1 32 (cellN (r + 1) f (x + 1) x) = nI (A x) ∧ A x ≤ 1000000) (hB : ∀ x, L0 ≤ x → x ≤ 40 → T0.2.1 32 (cellN (r + 1) (f + 1) x b) = nI (B x) ∧ B x ≤ 1000000) : ∀ x n v7 m7, L0 ≤ x → x ≤ 40 → 9 ≤ n → m_X9_triesBest_L12 (n + 1) (sI T0 33 m7) (nI l) (nI t) (nI r) (nI f) (nI b) v7 (nI x) = if v7.toInt < (mixN (odN T0 l t x f) (A x) (B x) : Int) then m_X9_triesBest_L12 n (sI T0 33 (nI x)) (nI l) (nI t) (nI r) (nI f) (nI b) (nI (mixN (odN T0 l t x f) (A x) (B x))) (nI (x + 1)) else m_X9_triesBest_L12 n (sI T0 33 m7) (nI l) (nI t) (nI r) (nI f) (nI b) v7 (nI (x + 1)) := by
  have hk := hv.1
  intro x n v7 m7 hx1 hx2 hn
  have hvT : VR ib ab k S (sI T0 33 m7) := hv.congrT (EqT.rfl T0)
  have ho := od_nat hvT hl ht hx2 hf
  have eo : odN (sI T0 33 m7) l t x f = odN T0 l t x f := congrFun (congrFun (congrFun (odN_eqT (show EqT T0 (sI T0 33 m7) from EqT.rfl T0) l) t) x) f
  obtain ⟨a1, a2⟩ := hA x hx1 hx2
  obtain ⟨b1, b2⟩ := hB x hx1 hx2
  have hm := mixN_le (p := odN T0 l t x f) (M := 1000000) (by rw [← eo]; exact ho.2) a2 b2
  conv => lhs; unfold m_X9_triesBest_L12
  simp only [nmE]
  have hc1 : cellN (r + 1) f (x + 1) x < 28224 := cellN_lt (by omega) (by omega) (by omega) (by omega)
  have hc2 : cellN (r + 1) (f + 1) x b < 28224 := cellN_lt (by omega) (by omega) (by omega) (by omega)
  rw [lit32 40, if_neg (show ¬ nI 40 < nI x by rw [ltN (by omega) (by omega)]; omega), mn41 hx2, s1, s1, s1, cell9, Option.bind_some, ckN hc1 (by omega), cell9, Option.bind_some, ckN hc2 (by omega), clN (by omega), clN (by omega), odds9 hvT hl ht (by omega), Option.bind_some, show (sI T0 33 m7).2.1 32 = T0.2.1 32 from rfl, a1, b1, ho.1, eo, exp9 _ (by rw [← eo]; exact ho.2) a2 b2, Option.bind_some]
  rw [sI_sI]
  by_cases c : v7.toInt < (mixN (odN T0 l t x f) (A x) (B x) : Int)
  · rw [if_pos (show v7 < nI (mixN (odN T0 l t x f) (A x) (B x)) by rw [lt32, tiN (by omega)]; exact c), if_pos c]
  · rw [if_neg (show ¬ v7 < nI (mixN (odN T0 l t x f) (A x) (B x)) by rw [lt32, tiN (by omega)]; exact c), if_neg c]
theorem best_stop (l t r f b : Nat) : ∀ n X v, m_X9_triesBest_L12 (n + 1) X (nI l) (nI t) (nI r) (nI f) (nI b) v (nI 41) = some (X, v) := by
  intro n X v
  unfold m_X9_triesBest_L12
  rw [if_pos (by decide)]
theorem best_L {ib ab k l t r f b : Nat} {S T0 : St} {A B : Nat → Nat} (hv : VR ib ab k S T0) (hl : l < k) (ht : t < 3) (hr : r ≤ 2) (hf : f ≤ 3) (hfr : f ≤ r) (hb : b ≤ 40) {L0 : Nat} (hL0 : 1 ≤ L0) (hA : ∀ x, L0 ≤ x → x ≤ 40 → T0.2.1 32 (cellN (r + 1) f (x + 1) x) = nI (A x) ∧ A x ≤ 1000000) (hB : ∀ x, L0 ≤ x → x ≤ 40 → T0.2.1 32 (cellN (r + 1) (f + 1) x b) = nI (B x) ∧ B x ≤ 1000000) :
    ∀ d x n v7 m7, x + d = 40 → L0 ≤ x → d + 10 ≤ n → -1 ≤ v7.toInt → m_X9_triesBest_L12 n (sI T0 33 m7) (nI l) (nI t) (nI r) (nI f) (nI b) v7 (nI x) = some (if v7.toInt < ((bst (fun x => mixN (odN T0 l t x f) (A x) (B x)) d x).1 : Int) then (sI T0 33 (nI (bst (fun x => mixN (odN T0 l t x f) (A x) (B x)) d x).2), nI (bst (fun x => mixN (odN T0 l t x f) (A x) (B x)) d x).1) else (sI T0 33 m7, v7)) := by
  have hk := hv.1
  have step := best_step hv hl ht hr hf hfr hb hA hB
  have stop := best_stop l t r f b
  have hmle : ∀ x, L0 ≤ x → x ≤ 40 → mixN (odN T0 l t x f) (A x) (B x) ≤ 1000000 := fun x h1 h2 => mixN_le (od_nat hv hl ht h2 hf).2 (hA x h1 h2).2 (hB x h1 h2).2
  intro d
  induction d with
  | zero =>
    intro x n v7 m7 hx hx1 hn h7
    obtain ⟨m, rfl⟩ : ∃ m, n = m + 2 := ⟨n - 2, by omega⟩
    have e41 : nI (x + 1) = nI 41 := by rw [show x + 1 = 41 by omega]
    rw [step x (m + 1) v7 m7 hx1 (by omega) (by omega), e41]
    show _ = some (if v7.toInt < ((mixN (odN T0 l t x f) (A x) (B x) : Nat) : Int) then (sI T0 33 (nI x), nI (mixN (odN T0 l t x f) (A x) (B x))) else (sI T0 33 m7, v7))
    generalize mixN (odN T0 l t x f) (A x) (B x) = w
    by_cases c : v7.toInt < (w : Int)
    · rw [if_pos c, if_pos c]; exact stop m _ _
    · rw [if_neg c, if_neg c]; exact stop m _ _
  | succ d ih =>
    intro x n v7 m7 hx hx1 hn h7
    obtain ⟨m, rfl⟩ : ∃ m, n = m + 1 := ⟨n - 1, by omega⟩
    have hle := hmle x hx1 (by omega)
    rw [step x m v7 m7 hx1 (by omega) (by omega)]
    obtain ⟨g, hg⟩ : ∃ g : Nat → Nat, g = fun x => mixN (odN T0 l t x f) (A x) (B x) := ⟨_, rfl⟩
    have hgx : mixN (odN T0 l t x f) (A x) (B x) = g x := by rw [hg]
    rw [← hg] at ih ⊢
    rw [hgx] at hle ⊢
    show _ = some (if v7.toInt < ((if g x < (bst g d (x + 1)).1 then bst g d (x + 1) else (g x, x)).1 : Int) then (sI T0 33 (nI (if g x < (bst g d (x + 1)).1 then bst g d (x + 1) else (g x, x)).2), nI (if g x < (bst g d (x + 1)).1 then bst g d (x + 1) else (g x, x)).1) else (sI T0 33 m7, v7))
    by_cases c : v7.toInt < (g x : Int)
    · rw [if_pos c, ih (x + 1) m _ _ (by omega) (by omega) (by omega) (by rw [tiN (by omega)]; omega), tiN (by omega)]
      by_cases c2 : g x < (bst g d (x + 1)).1
      · rw [if_pos (show (g x : Int) < ((bst g d (x + 1)).1 : Int) by omega), if_pos c2, if_pos (show v7.toInt < ((bst g d (x + 1)).1 : Int) by omega)]
      · rw [if_neg (show ¬ (g x : Int) < ((bst g d (x + 1)).1 : Int) by omega), if_neg c2, if_pos c]
    · rw [if_neg c, ih (x + 1) m _ _ (by omega) (by omega) (by omega) h7]
      by_cases c2 : g x < (bst g d (x + 1)).1
      · rw [if_pos c2]
      · rw [if_neg c2, if_neg (show ¬ v7.toInt < ((bst g d (x + 1)).1 : Int) by omega), if_neg c]
theorem best9 {ib ab k l t r f b n L : Nat} {S T : St} {A B : Nat → Nat} (hv : VR ib ab k S T) (hl : l < k) (ht : t < 3) (hr : r ≤ 2) (hfr : f ≤ r) (hb : b ≤ 40) (hL : 1 ≤ L) (hL4 : L ≤ 40) (hn : 60 ≤ n) (hA : ∀ x, L ≤ x → x ≤ 40 → T.2.1 32 (cellN (r + 1) f (x + 1) x) = nI (A x) ∧ A x ≤ 1000000) (hB : ∀ x, L ≤ x → x ≤ 40 → T.2.1 32 (cellN (r + 1) (f + 1) x b) = nI (B x) ∧ B x ≤ 1000000) :
    m_X9_triesBest n T (nI l) (nI t) (nI r) (nI f) (nI L) (nI b) = some (nI (bst (fun x => mixN (odN T l t x f) (A x) (B x)) (40 - L) L).1, sI T 33 (nI (bst (fun x => mixN (odN T l t x f) (A x) (B x)) (40 - L) L).2)) := by
  unfold m_X9_triesBest
  simp only [nmE]
  rw [best_L hv hl ht hr (by omega) hfr hb hL hA hB (40 - L) L n (-1) 0 (by omega) (by omega) (by omega) (by decide), if_pos (by have : Int32.toInt (-1) = -1 := rfl; omega)]
  rfl
/-- a cell that can be -/
def canB (r f L b : Nat) : Bool := if f = 0 then decide (b + 1 = L) else decide (f < r ∨ b = 0)
theorem canB_mk {r f L b : Nat} (h1 : f = 0 → b + 1 = L) (h2 : f ≠ 0 → f < r ∨ b = 0) : canB r f L b = true := by
  unfold canB
  by_cases c : f = 0
  · rw [if_pos c]; exact decide_eq_true (h1 c)
  · rw [if_neg c]; exact decide_eq_true (h2 c)
theorem canB_1 {r f L b : Nat} (h : canB r f L b = true) (c : f = 0) : b + 1 = L := by
  unfold canB at h
  rw [if_pos c] at h
  exact of_decide_eq_true h
theorem canB_2 {r f L b : Nat} (h : canB r f L b = true) (c : f ≠ 0) : f < r ∨ b = 0 := by
  unfold canB at h
  rw [if_neg c] at h
  exact of_decide_eq_true h
theorem canBe9 (T : St) {r f L b : Nat} (hr : r ≤ 3) (hf : f ≤ 3) (hL1 : 1 ≤ L) (hL : L ≤ 41) (hb : b ≤ 41) : m_X9_canBe T (nI r) (nI f) (nI L) (nI b) = some (if canB r f L b = true then 1 else 0) := by
  unfold m_X9_canBe canB
  rw [if0N (by omega), show nI L - 1 = nI (L - 1) by rw [lit32 1, subN hL1], ifeqN (by omega) (by omega), ifltN (by omega) (by omega), if0N (by omega)]
  by_cases c : f = 0
  · rw [if_pos c, if_pos c]
    by_cases c2 : b = L - 1
    · rw [if_pos c2, if_pos (decide_eq_true (show b + 1 = L by omega))]
    · rw [if_neg c2, if_neg (fun q => c2 (by have := of_decide_eq_true q; omega))]
  · rw [if_neg c, if_neg c]
    by_cases c2 : f < r
    · rw [if_pos c2, if_pos (decide_eq_true (Or.inl c2))]
    · rw [if_neg c2]
      by_cases c3 : b = 0
      · rw [if_pos c3, if_pos (decide_eq_true (Or.inr c3))]
      · rw [if_neg c3, if_neg (fun q => by rcases of_decide_eq_true q with z | z; exact c2 z; exact c3 z)]
/-- the cells of round r are laid -/
def Laid (D : Nat → Nat → Nat) (out : Nat) (beh : Nat → Nat) (T : St) (r : Nat) : Prop := ∀ f L b, f ≤ r → 1 ≤ L → L ≤ 41 → b < L → canB r f L b = true → T.2.1 32 (cellN r f L b) = nI (fv D out beh (3 - r) f L b)
/-- what laying rests on -/
def LayH (l t s out : Nat) (beh : Nat → Nat) (T : St) : Prop := out ≤ 1000000 ∧ (∀ b, b ≤ 40 → beh b ≤ 1000000) ∧ ∀ T', FrF T T' → ∀ b, b ≤ 40 → m_X9_ends T' (nI t) (nI b) (nI s) = some (nI (fE out beh b))
theorem LayH.fr {l t s out : Nat} {beh : Nat → Nat} {T T' : St} (h : LayH l t s out beh T) (f : FrF T T') : LayH l t s out beh T' := ⟨h.1, h.2.1, fun T2 g b hb => h.2.2 T2 (f.trans g) b hb⟩
theorem cell_val {ib ab k l t s out r f L b n : Nat} {beh : Nat → Nat} {S T : St} (hv : VR ib ab k S T) (hl : l < k) (ht : t < 3) (hH : LayH l t s out beh T) (hr : r ≤ 3) (hr1 : 1 ≤ r) (hfr : f ≤ r) (hL1 : 1 ≤ L) (hL : L ≤ 41) (hb : b < L) (hc : canB r f L b = true) (hn : 60 ≤ n) (hup : r < 3 → Laid (odN T l t) out beh T (r + 1)) :
    ∃ T', ((if nI r = 3 then ((m_X9_ends T (nI t) (nI b) (nI s)).bind (fun r24 => some (T, r24))) else (if nI L ≤ 40 then ((m_X9_triesBest n T (nI l) (nI t) (nI r) (nI f) (nI L) (nI b)).bind (fun r27 => some (r27.2, r27.1))) else ((m_X9_ends T (nI t) (nI b) (nI s)).bind (fun r29 => some (T, r29)))) : Option (St × Int32))) = some (T', nI (fv (odN T l t) out beh (3 - r) f L b)) ∧ FrF T T' ∧ T'.2.1 32 = T.2.1 32 := by
  have hDD : ∀ x f, x ≤ 40 → f ≤ 3 → odN T l t x f ≤ 1000 := fun x f hx hf => (od_nat hv hl ht hx hf).2
  have hvle : ∀ j f L b, f + j ≤ 3 → b ≤ 40 → fv (odN T l t) out beh j f L b ≤ 1000000 := fv_le hDD hH.1 hH.2.1
  rw [lit32 3, ifeqN (by omega) (by omega), lit32 40, ifleN (by omega) (by omega)]
  by_cases c : r = 3
  · rw [if_pos c, hH.2.2 T (FrF.rfl T) b (by omega), fv_hi (by omega)]
    exact ⟨T, rfl, FrF.rfl T, rfl⟩
  · rw [if_neg c]
    by_cases c2 : L ≤ 40
    · rw [if_pos c2]
      have hlaid := hup (by omega)
      rw [best9 (A := fun x => fv (odN T l t) out beh (2 - r) f (x + 1) x) (B := fun x => fv (odN T l t) out beh (2 - r) (f + 1) x b) hv hl ht (by omega) hfr (by omega) hL1 c2 hn (fun x h1 h2 => ⟨?_, hvle _ _ _ _ (by omega) h2⟩) (fun x h1 h2 => ⟨?_, hvle _ _ _ _ (by omega) (by omega)⟩)]
      · refine ⟨sI T 33 (nI (bst (fun x => mixN (odN T l t x f) (fv (odN T l t) out beh (2 - r) f (x + 1) x) (fv (odN T l t) out beh (2 - r) (f + 1) x b)) (40 - L) L).2), ?_, (FrF.rfl T).set _, rfl⟩
        simp only [Option.bind_some]
        rw [show 3 - r = (2 - r) + 1 by omega, fv_go c2]
        rfl
      · have := hlaid f (x + 1) x (by omega) (by omega) (by omega) (by omega) (canB_mk (fun _ => rfl) (fun _ => Or.inl (by omega)))
        rw [show 3 - (r + 1) = 2 - r by omega] at this
        exact this
      · have := hlaid (f + 1) x b (by omega) (by omega) (by omega) (by omega) (canB_mk (fun q => absurd q (by omega)) (fun _ => by
          by_cases q : f < r
          · exact Or.inl (by omega)
          · right
            rcases canB_2 hc (by omega) with z | z
            · omega
            · exact z))
        rw [show 3 - (r + 1) = 2 - r by omega] at this
        exact this
    · rw [if_neg c2, hH.2.2 T (FrF.rfl T) b (by omega), fv_hi (by omega)]
      exact ⟨T, rfl, FrF.rfl T, rfl⟩
