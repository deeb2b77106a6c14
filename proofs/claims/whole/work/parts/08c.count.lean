/-! ===== layer B: counting, ranks ===== -/
theorem cntR_le (p : Nat → Bool) : ∀ d i, cntR p i d ≤ d := by
  intro d
  induction d with
  | zero => intro i; exact Nat.le_refl _
  | succ d ih =>
    intro i
    have := ih (i + 1)
    show (if p i = true then 1 else 0) + cntR p (i + 1) d ≤ d + 1
    split <;> omega
theorem cntR_congr {p q : Nat → Bool} : ∀ d i, (∀ j, i ≤ j → j < i + d → p j = q j) → cntR p i d = cntR q i d := by
  intro d
  induction d with
  | zero => intro i _; rfl
  | succ d ih =>
    intro i h
    show (if p i = true then 1 else 0) + cntR p (i + 1) d = (if q i = true then 1 else 0) + cntR q (i + 1) d
    rw [h i (by omega) (by omega), ih (i + 1) (fun j a b => h j (by omega) (by omega))]
theorem cntR_mono {p q : Nat → Bool} : ∀ d i, (∀ j, i ≤ j → j < i + d → p j = true → q j = true) → cntR p i d ≤ cntR q i d := by
  intro d
  induction d with
  | zero => intro i _; exact Nat.le_refl _
  | succ d ih =>
    intro i h
    show (if p i = true then 1 else 0) + cntR p (i + 1) d ≤ (if q i = true then 1 else 0) + cntR q (i + 1) d
    have h1 := ih (i + 1) (fun j a b => h j (by omega) (by omega))
    have h2 := h i (by omega) (by omega)
    by_cases hp : p i = true
    · rw [if_pos hp, if_pos (h2 hp)]; omega
    · rw [if_neg hp]; omega
theorem cntR_lt {p q : Nat → Bool} : ∀ d i, (∀ j, i ≤ j → j < i + d → p j = true → q j = true) → (∃ j, i ≤ j ∧ j < i + d ∧ q j = true ∧ p j = false) → cntR p i d < cntR q i d := by
  intro d
  induction d with
  | zero => intro i _ ⟨j, h1, h2, _⟩; omega
  | succ d ih =>
    intro i h ⟨j, h1, h2, h3, h4⟩
    show (if p i = true then 1 else 0) + cntR p (i + 1) d < (if q i = true then 1 else 0) + cntR q (i + 1) d
    have hm := cntR_mono d (i + 1) (fun j a b => h j (by omega) (by omega))
    by_cases hj : j = i
    · subst hj
      rw [if_pos h3, if_neg (by rw [h4]; decide)]; omega
    · have hr := ih (i + 1) (fun j a b => h j (by omega) (by omega)) ⟨j, by omega, by omega, h3, h4⟩
      have h5 := h i (by omega) (by omega)
      by_cases hp : p i = true
      · rw [if_pos hp, if_pos (h5 hp)]; omega
      · rw [if_neg hp]; omega
theorem cntR_all {p : Nat → Bool} : ∀ d i, (∀ j, i ≤ j → j < i + d → p j = true) → cntR p i d = d := by
  intro d
  induction d with
  | zero => intro i _; rfl
  | succ d ih =>
    intro i h
    show (if p i = true then 1 else 0) + cntR p (i + 1) d = d + 1
    rw [if_pos (h i (by omega) (by omega)), ih (i + 1) (fun j a b => h j (by omega) (by omega))]; omega
theorem cntR_none {p : Nat → Bool} : ∀ d i, (∀ j, i ≤ j → j < i + d → p j = false) → cntR p i d = 0 := by
  intro d
  induction d with
  | zero => intro i _; rfl
  | succ d ih =>
    intro i h
    show (if p i = true then 1 else 0) + cntR p (i + 1) d = 0
    rw [if_neg (by rw [h i (by omega) (by omega)]; decide), ih (i + 1) (fun j a b => h j (by omega) (by omega))]
theorem cntR_zero {p : Nat → Bool} : ∀ d i, cntR p i d = 0 → ∀ j, i ≤ j → j < i + d → p j = false := by
  intro d
  induction d with
  | zero => intro i _ j h1 h2; omega
  | succ d ih =>
    intro i h j h1 h2
    have h3 : (if p i = true then 1 else 0) + cntR p (i + 1) d = 0 := h
    by_cases hj : j = i
    · subst hj
      by_cases hp : p j = true
      · rw [if_pos hp] at h3; omega
      · simpa using hp
    · exact ih (i + 1) (by omega) j (by omega) (by omega)
theorem cntR_add {p q r : Nat → Bool} : ∀ d i, (∀ j, i ≤ j → j < i + d → (if r j = true then 1 else 0) = (if p j = true then 1 else 0) + (if q j = true then 1 else 0)) → cntR r i d = cntR p i d + cntR q i d := by
  intro d
  induction d with
  | zero => intro i _; rfl
  | succ d ih =>
    intro i h
    show (if r i = true then 1 else 0) + cntR r (i + 1) d = (if p i = true then 1 else 0) + cntR p (i + 1) d + ((if q i = true then 1 else 0) + cntR q (i + 1) d)
    rw [h i (by omega) (by omega), ih (i + 1) (fun j a b => h j (by omega) (by omega))]; omega
theorem cntR_one {p : Nat → Bool} : ∀ d i, (∀ a b, i ≤ a → a < i + d → i ≤ b → b < i + d → p a = true → p b = true → a = b) → cntR p i d ≤ 1 := by
  intro d
  induction d with
  | zero => intro i _; exact Nat.zero_le _
  | succ d ih =>
    intro i h
    show (if p i = true then 1 else 0) + cntR p (i + 1) d ≤ 1
    by_cases hp : p i = true
    · rw [if_pos hp, cntR_none]
      · omega
      intro j h1 h2
      by_cases hj : p j = true
      · have := h i j (by omega) (by omega) (by omega) (by omega) hp hj; omega
      · simpa using hj
    · rw [if_neg hp]
      have := ih (i + 1) (fun a b h1 h2 h3 h4 => h a b (by omega) (by omega) (by omega) (by omega)); omega
/-- the rank of l among those that are there -/
def rnk (k : Nat) (w : Nat → Bool) (ky : Nat → Int) (l : Nat) : Nat := cntR (fun j => w j && decide (ky j < ky l)) 0 k
theorem rnk_lt {k : Nat} {w : Nat → Bool} {ky : Nat → Int} {a b : Nat} (ha : a < k) (hwa : w a = true) : rnk k w ky a < rnk k w ky b ↔ ky a < ky b := by
  constructor
  · intro h
    by_cases hc : ky a < ky b
    · exact hc
    · exfalso
      have : rnk k w ky b ≤ rnk k w ky a := by
        apply cntR_mono
        intro j _ _ hj
        simp only [Bool.and_eq_true, decide_eq_true_eq] at hj ⊢
        exact ⟨hj.1, by omega⟩
      omega
  · intro h
    apply cntR_lt
    · intro j _ _ hj
      simp only [Bool.and_eq_true, decide_eq_true_eq] at hj ⊢
      exact ⟨hj.1, by omega⟩
    · refine ⟨a, by omega, by omega, ?_, ?_⟩
      · simp [hwa, h]
      · simp
theorem rnk_lt_k {k : Nat} {w : Nat → Bool} {ky : Nat → Int} {a : Nat} (ha : a < k) : rnk k w ky a < k := by
  have h : rnk k w ky a < cntR (fun _ => true) 0 k := by
    apply cntR_lt
    · intro _ _ _ _; rfl
    · exact ⟨a, by omega, by omega, rfl, by simp⟩
  rw [cntR_all k 0 (fun _ _ _ => rfl)] at h
  exact h
theorem rnk_inj {k : Nat} {w : Nat → Bool} {ky : Nat → Int} (hinj : ∀ a b, a < k → b < k → a ≠ b → ky a ≠ ky b) {a b : Nat} (ha : a < k) (hb : b < k) (hwa : w a = true) (hwb : w b = true) (h : rnk k w ky a = rnk k w ky b) : a = b := by
  by_cases hab : a = b
  · exact hab
  · exfalso
    have h1 := hinj a b ha hb hab
    have h2 := rnk_lt (b := b) ha hwa (ky := ky)
    have h3 := rnk_lt (b := a) hb hwb (ky := ky)
    rcases Int.lt_or_lt_of_ne h1 with h4 | h4
    · have := h2.mpr h4; omega
    · have := h3.mpr h4; omega
/-- how many have a rank below x -/
def below (k : Nat) (w : Nat → Bool) (ky : Nat → Int) (x : Nat) : Nat := cntR (fun j => w j && decide (rnk k w ky j < x)) 0 k
def atR (k : Nat) (w : Nat → Bool) (ky : Nat → Int) (x : Nat) : Nat := cntR (fun j => w j && decide (rnk k w ky j = x)) 0 k
theorem below_succ (k : Nat) (w : Nat → Bool) (ky : Nat → Int) (x : Nat) : below k w ky (x + 1) = below k w ky x + atR k w ky x := by
  apply cntR_add
  intro j _ _
  by_cases hw : w j = true
  · simp only [hw, Bool.true_and, decide_eq_true_eq]
    rcases Nat.lt_trichotomy (rnk k w ky j) x with h | h | h
    · rw [if_pos (by omega), if_pos h, if_neg (by omega)]
    · rw [if_pos (by omega), if_neg (by omega), if_pos h]
    · rw [if_neg (by omega), if_neg (by omega), if_neg (by omega)]
  · simp [hw]
theorem below_rnk {k : Nat} {w : Nat → Bool} {ky : Nat → Int} {l : Nat} : below k w ky (rnk k w ky l) = rnk k w ky l := by
  apply cntR_congr
  intro j _ hj
  by_cases hw : w j = true
  · simp only [hw, Bool.true_and]
    have := rnk_lt (b := l) (by omega : j < k) hw (ky := ky)
    by_cases h : ky j < ky l
    · simp [h, this.mpr h]
    · simp [h]
      have h2 : ¬ rnk k w ky j < rnk k w ky l := fun q => h (this.mp q)
      omega
  · simp [hw]
theorem below_le {k : Nat} {w : Nat → Bool} {ky : Nat → Int} (hinj : ∀ a b, a < k → b < k → a ≠ b → ky a ≠ ky b) : ∀ x, below k w ky x ≤ x := by
  intro x
  induction x with
  | zero =>
    have : below k w ky 0 = 0 := by
      apply cntR_none
      intro j _ _
      simp
    omega
  | succ x ih =>
    have h1 := below_succ k w ky x
    have h2 : atR k w ky x ≤ 1 := by
      apply cntR_one
      intro a b _ ha _ hb h3 h4
      simp only [Bool.and_eq_true, decide_eq_true_eq] at h3 h4
      exact rnk_inj hinj (by omega) (by omega) h3.1 h4.1 (h3.2.trans h4.2.symm)
    omega
/-- every place below the number of those that are there is somebody's -/
theorem rnk_onto {k : Nat} {w : Nat → Bool} {ky : Nat → Int} (hinj : ∀ a b, a < k → b < k → a ≠ b → ky a ≠ ky b) {x : Nat} (hx : x < cntR w 0 k) : ∃ l, l < k ∧ w l = true ∧ rnk k w ky l = x := by
  by_cases hc : ∃ l, l < k ∧ w l = true ∧ rnk k w ky l = x
  · exact hc
  · exfalso
    have hno : ∀ r l, l < k → w l = true → rnk k w ky l = r → r < x := by
      intro r
      induction r using Nat.strongRecOn with
      | ind r ih =>
        intro l hl hw hr
        by_cases h1 : r < x
        · exact h1
        · exfalso
          have h2 : r ≠ x := fun q => hc ⟨l, hl, hw, hr.trans q⟩
          have h3 : below k w ky r = below k w ky x := by
            apply cntR_congr
            intro j _ hj
            by_cases hwj : w j = true
            · simp only [hwj, Bool.true_and]
              by_cases h4 : rnk k w ky j < r
              · have := ih _ h4 j (by omega) hwj rfl
                simp [h4, this]
              · have h5 : ¬ rnk k w ky j < x := by omega
                simp [h4, h5]
            · simp [hwj]
          have h6 : below k w ky r = r := by rw [← hr]; exact below_rnk
          have h7 := below_le hinj (w := w) x
          omega
    have h1 : cntR w 0 k = below k w ky x := by
      apply cntR_congr
      intro j _ hj
      by_cases hwj : w j = true
      · have := hno _ j (by omega) hwj rfl
        simp [hwj, this]
      · simp [hwj]
    have := below_le hinj (w := w) x
    omega
theorem below_k {k : Nat} {w : Nat → Bool} {ky : Nat → Int} : below k w ky k = cntR w 0 k := by
  apply cntR_congr
  intro j _ hj
  by_cases hwj : w j = true
  · have := rnk_lt_k (w := w) (ky := ky) (by omega : j < k)
    simp [hwj, this]
  · simp [hwj]
/-! the reference tells ranks -/
theorem notes_eq {T : St} {t : Nat} (ht : t < 64) (e : T.1 1 = nI t) (v : Int64) : m_X9_notes T v = some (sI (sJ T 2 t v) 1 (nI (t + 1))) := by
  unfold m_X9_notes
  simp only [nmE]
  rw [e, ckN ht (by omega), clN (by omega)]
  show some (sI (sJ T 2 t v) 1 ((sJ T 2 t v).1 1 + 1)) = _
  rw [sJ_1, e, lit32 1, nI_add]
theorem EqT.note {T0 T : St} (h : EqT T0 T) (t : Nat) (v : Int64) (u : Int32) : EqT T0 (sI (sJ T 2 t v) 1 u) := ⟨⟨h.1.1, h.1.2.1, h.1.2.2.1, h.1.2.2.2.1, h.1.2.2.2.2⟩, h.2.1, h.2.2.1, h.2.2.2.1, h.2.2.2.2⟩
theorem rank_inner {L : Nat → St → Int32 → Int32 → Option St} {k c : Nat} {w : Nat → Bool} {ky : Nat → Int} {T0 : St} (hk : k ≤ 6) (hinj : ∀ a b, a < k → b < k → a ≠ b → ky a ≠ ky b)
    (hL : ∀ n T i nn, EqT T0 T → c ≤ n → nn < k → i ≤ k → L (n + 1) T (nI nn) (nI i) = if k ≤ i then some T else if w i = true ∧ rnk k w ky i = nn then (m_X9_notes T (nI i).toInt64).bind (fun r => L n r (nI nn) (nI (i + 1))) else L n T (nI nn) (nI (i + 1))) :
    ∀ d i n T t nn, i + d = k → d + c + 1 ≤ n → EqT T0 T → nn < k → t ≤ 6 → T.1 1 = nI t → ((∃ j, i ≤ j ∧ j < k ∧ w j = true ∧ rnk k w ky j = nn) → t = nn) →
      ∃ T', L n T (nI nn) (nI i) = some T' ∧ EqT T0 T' ∧ T'.1 1 = nI (t + cntR (fun j => w j && decide (rnk k w ky j = nn)) i d) ∧ (∀ j, i ≤ j → j < k → w j = true → rnk k w ky j = nn → T'.2.2.1 2 nn = (nI j).toInt64) ∧ (∀ x, x < t → T'.2.2.1 2 x = T.2.2.1 2 x) := by
  intro d
  induction d with
  | zero =>
    intro i n T t nn hi hn hT hnn ht e _
    obtain ⟨m, rfl⟩ : ∃ m, n = m + 1 := ⟨n - 1, by omega⟩
    refine ⟨T, ?_, hT, e, fun j h1 h2 => absurd h1 (by omega), fun x _ => rfl⟩
    rw [hL m T i nn hT (by omega) hnn (by omega), if_pos (by omega)]
  | succ d ih =>
    intro i n T t nn hi hn hT hnn ht e hex
    obtain ⟨m, rfl⟩ : ∃ m, n = m + 1 := ⟨n - 1, by omega⟩
    by_cases hw : w i = true ∧ rnk k w ky i = nn
    · have htn : t = nn := hex ⟨i, by omega, by omega, hw.1, hw.2⟩
      subst htn
      obtain ⟨T', e1, e2, e3, e4, e5⟩ := ih (i + 1) m (sI (sJ T 2 t (nI i).toInt64) 1 (nI (t + 1))) (t + 1) t (by omega) (by omega) (hT.note _ _ _) hnn (by omega) rfl (by
        intro ⟨j, h1, h2, h3, h4⟩
        have := rnk_inj hinj (by omega : i < k) h2 hw.1 h3 (hw.2.trans h4.symm)
        omega)
      have hc0 : cntR (fun j => w j && decide (rnk k w ky j = t)) (i + 1) d = 0 := by
        apply cntR_none
        intro j h1 h2
        by_cases h3 : w j = true ∧ rnk k w ky j = t
        · have := rnk_inj hinj (by omega : i < k) (by omega) hw.1 h3.1 (hw.2.trans h3.2.symm)
          omega
        · by_cases h4 : w j = true
          · have h5 : ¬ rnk k w ky j = t := fun q => h3 ⟨h4, q⟩
            simp [h4, h5]
          · simp [h4]
      refine ⟨T', ?_, e2, ?_, ?_, ?_⟩
      · rw [hL m T i t hT (by omega) hnn (by omega), if_neg (by omega), if_pos hw, notes_eq (by omega) e]
        exact e1
      · rw [e3, hc0]
        have : cntR (fun j => w j && decide (rnk k w ky j = t)) i (d + 1) = 1 := by
          show (if (w i && decide (rnk k w ky i = t)) = true then 1 else 0) + cntR (fun j => w j && decide (rnk k w ky j = t)) (i + 1) d = 1
          rw [hc0, if_pos (by simp [hw.1, hw.2])]
        rw [this]
      · intro j h1 h2 h3 h4
        have := rnk_inj hinj (by omega : i < k) h2 hw.1 h3 (hw.2.trans h4.symm)
        subst this
        rw [e5 t (by omega)]
        show (sJ T 2 t (nI i).toInt64).2.2.1 2 t = _
        rw [sJ_221, if_pos rfl, if_pos rfl]
      · intro x hx
        rw [e5 x (by omega)]
        show (sJ T 2 t (nI i).toInt64).2.2.1 2 x = _
        rw [sJ_221, if_pos rfl, if_neg (by omega)]
    · obtain ⟨T', e1, e2, e3, e4, e5⟩ := ih (i + 1) m T t nn (by omega) (by omega) hT hnn ht e (by
        intro ⟨j, h1, h2, h3, h4⟩
        exact hex ⟨j, by omega, h2, h3, h4⟩)
      refine ⟨T', ?_, e2, ?_, ?_, e5⟩
      · rw [hL m T i nn hT (by omega) hnn (by omega), if_neg (by omega), if_neg hw]
        exact e1
      · rw [e3]
        have : cntR (fun j => w j && decide (rnk k w ky j = nn)) i (d + 1) = cntR (fun j => w j && decide (rnk k w ky j = nn)) (i + 1) d := by
          show (if (w i && decide (rnk k w ky i = nn)) = true then 1 else 0) + cntR (fun j => w j && decide (rnk k w ky j = nn)) (i + 1) d = _
          rw [if_neg, Nat.zero_add]
          intro q
          simp only [Bool.and_eq_true, decide_eq_true_eq] at q
          exact hw q
        rw [this]
      · intro j h1 h2 h3 h4
        by_cases hj : j = i
        · subst hj; exact absurd ⟨h3, h4⟩ hw
        · exact e4 j (by omega) h2 h3 h4
theorem rank_outer {L : Nat → St → Int32 → Int32 → Option St} {O : Nat → St → Int32 → Option St} {k c : Nat} {w : Nat → Bool} {ky : Nat → Int} {T0 : St} (hk : k ≤ 6) (hinj : ∀ a b, a < k → b < k → a ≠ b → ky a ≠ ky b)
    (hL : ∀ n T i nn, EqT T0 T → c ≤ n → nn < k → i ≤ k → L (n + 1) T (nI nn) (nI i) = if k ≤ i then some T else if w i = true ∧ rnk k w ky i = nn then (m_X9_notes T (nI i).toInt64).bind (fun r => L n r (nI nn) (nI (i + 1))) else L n T (nI nn) (nI (i + 1)))
    (hO : ∀ n T i, EqT T0 T → i ≤ k → O (n + 1) T (nI i) = if k ≤ i then some T else (L n T (nI i) 0).bind (fun q => O n q (nI (i + 1)))) :
    ∀ d i n T, i + d = k → d + k + c + 2 ≤ n → EqT T0 T → T.1 1 = nI (below k w ky i) → (∀ j, j < k → w j = true → rnk k w ky j < i → T.2.2.1 2 (rnk k w ky j) = (nI j).toInt64) →
      ∃ T', O n T (nI i) = some T' ∧ EqT T0 T' ∧ T'.1 1 = nI (cntR w 0 k) ∧ (∀ j, j < k → w j = true → T'.2.2.1 2 (rnk k w ky j) = (nI j).toInt64) := by
  intro d
  induction d with
  | zero =>
    intro i n T hi hn hT e hrow
    obtain ⟨m, rfl⟩ : ∃ m, n = m + 1 := ⟨n - 1, by omega⟩
    have hik : i = k := by omega
    subst hik
    refine ⟨T, ?_, hT, ?_, fun j hj hw => hrow j hj hw (rnk_lt_k hj)⟩
    · rw [hO m T i hT (by omega), if_pos (by omega)]
    · rw [e, below_k]
  | succ d ih =>
    intro i n T hi hn hT e hrow
    obtain ⟨m, rfl⟩ : ∃ m, n = m + 1 := ⟨n - 1, by omega⟩
    obtain ⟨T1, e1, e2, e3, e4, e5⟩ := rank_inner hk hinj hL k 0 m T (below k w ky i) i (by omega) (by omega) hT (by omega) (by have := below_le hinj (w := w) i; omega) e (by
      intro ⟨j, h1, h2, h3, h4⟩
      rw [← h4]; exact below_rnk)
    obtain ⟨T', f1, f2, f3, f4⟩ := ih (i + 1) m T1 (by omega) (by omega) e2 (by rw [e3, below_succ]; rfl) (by
      intro j hj hw hr
      by_cases hji : rnk k w ky j = i
      · rw [hji]; exact e4 j (by omega) hj hw hji
      · have hlt : rnk k w ky j < i := by omega
        have hb : rnk k w ky j < below k w ky i := by
          have h1 : below k w ky (rnk k w ky j) = rnk k w ky j := below_rnk
          have h2 : below k w ky (rnk k w ky j) < below k w ky i := by
            apply cntR_lt
            · intro x _ _ hx
              simp only [Bool.and_eq_true, decide_eq_true_eq] at hx ⊢
              exact ⟨hx.1, by omega⟩
            · exact ⟨j, by omega, by omega, by simp [hw, hlt], by simp⟩
          omega
        rw [e5 _ hb]; exact hrow j hj hw hlt)
    refine ⟨T', ?_, f2, f3, f4⟩
    rw [hO m T i hT (by omega), if_neg (by omega), show (0 : Int32) = nI 0 from rfl, e1]
    exact f1
