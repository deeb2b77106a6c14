/-! ===== layer B: plan values ===== -/
def mixN (p a b : Nat) : Nat := (p * a + (1000 - p) * b) / 1000
theorem mixN_sum {p a b M : Nat} (hp : p ≤ 1000) (ha : a ≤ M) (hb : b ≤ M) : p * a + (1000 - p) * b ≤ 1000 * M := by
  have h1 : p * a ≤ p * M := Nat.mul_le_mul_left p ha
  have h2 : (1000 - p) * b ≤ (1000 - p) * M := Nat.mul_le_mul_left _ hb
  have h3 : p * M + (1000 - p) * M = 1000 * M := by rw [← Nat.add_mul]; congr 1; omega
  omega
theorem mixN_le {p a b M : Nat} (hp : p ≤ 1000) (ha : a ≤ M) (hb : b ≤ M) : mixN p a b ≤ M := by
  unfold mixN
  have := mixN_sum hp ha hb
  omega
theorem mixN_const {p c : Nat} (hp : p ≤ 1000) : mixN p c c = c := by
  unfold mixN
  rw [← Nat.add_mul, show p + (1000 - p) = 1000 by omega]
  omega
theorem mix8 (S : St) {p a b : Nat} (hp : p ≤ 1000) (ha : a ≤ 1000000) (hb : b ≤ 1000000) : m_X8_mix S (nI p) (nI a) (nI b) = some (nI (mixN p a b)) := by
  unfold m_X8_mix mixN
  have := mixN_sum hp ha hb
  rw [lit32 1000, subN hp, pk_mul, pk_mul, nI_add, pk_div (nI_lt31 (by omega)) (by omega) (nI_lt31 (by omega))]
theorem exp9 (T : St) {p a b : Nat} (hp : p ≤ 1000) (ha : a ≤ 1000000) (hb : b ≤ 1000000) : m_X9_expected T (nI p) (nI a) (nI b) = some (nI (mixN p a b)) := by
  unfold m_X9_expected mixN
  have := mixN_sum hp ha hb
  rw [lit32 1000, subN hp, nI_l (nI_lt31 (by omega)), nI_l (nI_lt31 (by omega)), nI_l (nI_lt31 (by omega)), nI_l (nI_lt31 (by omega)), lN_mul, lN_mul, lN_add, show (1000 : Int64) = lN 1000 from rfl, pk_lDiv (by omega) (by omega) (by omega), lN_i]
/-! odds as numbers -/
theorem tabS_nat {np : Nat} {ld od : Nat → Int32} {f x : Nat} (h : PtR np ld od f) (hx2 : x ≤ 40) : ∀ m k, 1 ≤ k → k + m ≤ np → ¬ nI x ≤ ld (f + (k - 1)) → ∃ v, v ≤ 1000 ∧ tabS ld od f (nI x) m k = nI v := by
  intro m
  induction m with
  | zero => intro k _ _ _; exact ⟨0, by omega, rfl⟩
  | succ m ih =>
    intro k hk hkm hn
    by_cases c : nI x ≤ ld (f + k)
    · obtain ⟨l1, _, hl1, e1⟩ := (h.1 (k - 1) (by omega)).1.nat1 (n := 40)
      obtain ⟨l2, _, hl2, e2⟩ := (h.1 k (by omega)).1.nat1 (n := 40)
      obtain ⟨o1, ho1, f1⟩ := (h.1 (k - 1) (by omega)).2.nat (n := 1000)
      obtain ⟨o2, ho2, f2⟩ := (h.1 k (by omega)).2.nat (n := 1000)
      have h2 := (h.2 (k - 1) (by omega))
      rw [show f + (k - 1) + 1 = f + k by omega, e1, e2, f1, f2, tiN (by omega), tiN (by omega), tiN (by omega), tiN (by omega)] at h2
      rw [e1, leN (by omega) (by omega)] at hn
      rw [e2, leN (by omega) (by omega)] at c
      have hd : (o1 - o2) * (x - l1) / (l2 - l1) ≤ o1 - o2 := by
        apply Nat.div_le_of_le_mul
        rw [Nat.mul_comm (l2 - l1)]
        exact Nat.mul_le_mul_left _ (by omega)
      have hb : (o1 - o2) * (x - l1) ≤ 1000 * 40 := Nat.mul_le_mul (by omega) (by omega)
      refine ⟨o1 - (o1 - o2) * (x - l1) / (l2 - l1), Nat.le_trans (Nat.sub_le _ _) ho1, ?_⟩
      show (if nI x ≤ ld (f + k) then od (f + k - 1) - (od (f + k - 1) - od (f + k)) * (nI x - ld (f + k - 1)) / (ld (f + k) - ld (f + k - 1)) else _) = _
      rw [show f + k - 1 = f + (k - 1) by omega, e1, e2, f1, f2, if_pos (by rw [leN (by omega) (by omega)]; exact c), subN (by omega), subN (by omega), subN (by omega), pk_mul, pk_div (nI_lt31 (by omega)) (by omega) (nI_lt31 (by omega)), subN (by omega)]
    · obtain ⟨v, hv, ev⟩ := ih (k + 1) (by omega) (by omega) (by rw [show k + 1 - 1 = k by omega]; exact c)
      refine ⟨v, hv, ?_⟩
      show (if nI x ≤ ld (f + k) then _ else tabS ld od f (nI x) m (k + 1)) = _
      rw [if_neg c, ev]
theorem tabO_nat {np : Nat} {ld od : Nat → Int32} {f x : Nat} (hnp : 1 ≤ np) (h : PtR np ld od f) (hx2 : x ≤ 40) : ∃ v, v ≤ 1000 ∧ tabO np ld od f (nI x) = nI v := by
  unfold tabO
  by_cases c : nI x ≤ ld f
  · rw [if_pos c]
    obtain ⟨o, ho, e⟩ := (h.1 0 (by omega)).2.nat (n := 1000)
    exact ⟨o, ho, e⟩
  · rw [if_neg c]
    exact tabS_nat h hx2 (np - 1) 1 (by omega) (by omega) c
def odN (T : St) (l t x f : Nat) : Nat := (od T l t (nI x) (nI f)).toNatClampNeg
theorem tabT_nat {ib ab k l t x : Nat} {S T : St} (hv : VR ib ab k S T) (hl : l < k) (ht : t < 3) (hx : x ≤ 40) : ∃ v, v ≤ 1000 ∧ tabT T l t (nI x) = nI v := by
  obtain ⟨np, n1, n2, n3, n4, n5, n6⟩ := hv.tab hl ht
  unfold tabT
  rw [n3, clN (by omega)]
  exact tabO_nat n1 ⟨n4, n5⟩ hx
theorem od_nat {ib ab k l t x f : Nat} {S T : St} (hv : VR ib ab k S T) (hl : l < k) (ht : t < 3) (hx : x ≤ 40) (hf : f ≤ 3) : od T l t (nI x) (nI f) = nI (odN T l t x f) ∧ odN T l t x f ≤ 1000 := by
  obtain ⟨v, hv1, ev⟩ := tabT_nat hv hl ht hx
  obtain ⟨q, hq, eq⟩ := hv.2.2.1.nat (n := 300)
  have hb : q * f ≤ 300 * 3 := Nat.mul_le_mul hq hf
  have e : od T l t (nI x) (nI f) = nI (v - q * f) := by
    unfold od
    rw [ev, eq, pk_mul]
    unfold mx
    by_cases c : q * f ≤ v
    · rw [subN c, show (0 : Int32) = nI 0 from rfl, ifltN (by omega) (by omega)]
      by_cases c2 : 0 < v - q * f
      · rw [if_pos c2]
      · rw [if_neg c2, show v - q * f = 0 by omega]
    · rw [if_neg, show v - q * f = 0 by omega]; rfl
      rw [lt32, pk_sub_toInt (by omega) (by omega)]
      have : Int32.toInt 0 = 0 := rfl
      omega
  unfold odN
  rw [e, clN (by omega)]
  exact ⟨rfl, by omega⟩
def plN (T : St) (l t w : Nat) : Nat := (T.2.1 9 (3 * (3 * l + t) + w)).toNatClampNeg
theorem pl_nat {ib ab k l t : Nat} {S T : St} (hv : VR ib ab k S T) (hl : l < k) (ht : t < 3) : (∀ w, w < 3 → T.2.1 9 (3 * (3 * l + t) + w) = nI (plN T l t w)) ∧ 1 ≤ plN T l t 0 ∧ plN T l t 0 ≤ 40 ∧ 1 ≤ plN T l t 1 ∧ plN T l t 1 ≤ 9 ∧ plN T l t 2 ≤ 9 := by
  obtain ⟨h1, h2, h3, h4⟩ := (hv.2.2.2.1 l hl).2.2.2.2.1 t ht
  obtain ⟨a, ha1, ha2, ea⟩ := h2.nat1 (n := 40)
  obtain ⟨b, hb1, hb2, eb⟩ := h3.nat1 (n := 9)
  obtain ⟨c, hc2, ec⟩ := h4.nat (n := 9)
  have e0 : plN T l t 0 = a := by unfold plN; rw [Nat.add_zero, ea, clN (by omega)]
  have e1 : plN T l t 1 = b := by unfold plN; rw [eb, clN (by omega)]
  have e2 : plN T l t 2 = c := by unfold plN; rw [ec, clN (by omega)]
  refine ⟨fun w hw => ?_, by omega, by omega, by omega, by omega, by omega⟩
  rcases (by omega : w = 0 ∨ w = 1 ∨ w = 2) with rfl | rfl | rfl
  · rw [e0]; exact ea
  · rw [e1]; exact eb
  · rw [e2]; exact ec
/-! what comes of a plan -/
def pvL (D : Nat → Nat → Nat) (pg pb out : Nat) (beh : Nat → Nat) : Nat → Nat → Nat → Nat → Nat
  | 0, _, b, _ => if b = 0 then out else beh b
  | r + 1, a, b, f => if a = 0 ∨ 40 < a then (if b = 0 then out else beh b) else mixN (D a f) (pvL D pg pb out beh r (a + pg) (max b a) f) (pvL D pg pb out beh r (a + pb) b (f + 1))
def pvS (D : Nat → Nat → Nat → Nat) (P : Nat → Nat → Nat) (out : Nat) (W : Nat → Nat) : Nat → Nat → Nat
  | 0 => fun s => W s
  | d + 1 => fun s => pvL (D (2 - d)) (P (2 - d) 1) (P (2 - d) 2) out (fun b => pvS D P out W d (s + b)) 3 (P (2 - d) 0) 0 0
theorem pvL_stop {D : Nat → Nat → Nat} {pg pb out : Nat} {beh : Nat → Nat} {r a b f : Nat} (h : r = 0 ∨ a = 0 ∨ 40 < a) : pvL D pg pb out beh r a b f = if b = 0 then out else beh b := by
  cases r with
  | zero => rfl
  | succ r =>
    show (if a = 0 ∨ 40 < a then (if b = 0 then out else beh b) else _) = _
    rw [if_pos (by omega)]
theorem pvL_go {D : Nat → Nat → Nat} {pg pb out : Nat} {beh : Nat → Nat} {r a b f : Nat} (h1 : 1 ≤ a) (h2 : a ≤ 40) : pvL D pg pb out beh (r + 1) a b f = mixN (D a f) (pvL D pg pb out beh r (a + pg) (max b a) f) (pvL D pg pb out beh r (a + pb) b (f + 1)) := by
  show (if a = 0 ∨ 40 < a then (if b = 0 then out else beh b) else _) = _
  rw [if_neg (by omega)]
theorem pvL_le {D : Nat → Nat → Nat} {pg pb out M : Nat} {beh : Nat → Nat} (hD : ∀ a f, a ≤ 40 → f ≤ 3 → D a f ≤ 1000) (ho : out ≤ M) (hb : ∀ b, b ≤ 40 → beh b ≤ M) : ∀ r a b f, b ≤ 40 → f + r ≤ 3 → pvL D pg pb out beh r a b f ≤ M := by
  intro r
  induction r with
  | zero =>
    intro a b f h1 _
    rw [pvL_stop (Or.inl rfl)]
    split
    · exact ho
    · exact hb b h1
  | succ r ih =>
    intro a b f h1 h2
    by_cases c : 1 ≤ a ∧ a ≤ 40
    · rw [pvL_go c.1 c.2]
      exact mixN_le (hD a f c.2 (by omega)) (ih _ _ _ (by omega) (by omega)) (ih _ _ _ h1 (by omega))
    · rw [pvL_stop (by omega)]
      split
      · exact ho
      · exact hb b h1
theorem pvL_congr {D : Nat → Nat → Nat} {pg pb out : Nat} {beh beh' : Nat → Nat} (hb : ∀ b, b ≤ 40 → beh b = beh' b) : ∀ r a b f, b ≤ 40 → pvL D pg pb out beh r a b f = pvL D pg pb out beh' r a b f := by
  intro r
  induction r with
  | zero =>
    intro a b f h1
    rw [pvL_stop (Or.inl rfl), pvL_stop (Or.inl rfl), hb b h1]
  | succ r ih =>
    intro a b f h1
    by_cases c : 1 ≤ a ∧ a ≤ 40
    · rw [pvL_go c.1 c.2, pvL_go c.1 c.2, ih _ _ _ (by omega), ih _ _ _ h1]
    · rw [pvL_stop (by omega), pvL_stop (by omega), hb b h1]
theorem pvL_const {D : Nat → Nat → Nat} {pg pb c : Nat} {beh : Nat → Nat} (hD : ∀ a f, a ≤ 40 → f ≤ 3 → D a f ≤ 1000) (hb : ∀ b, b ≤ 40 → beh b = c) : ∀ r a b f, b ≤ 40 → f + r ≤ 3 → pvL D pg pb c beh r a b f = c := by
  intro r
  induction r with
  | zero =>
    intro a b f h1 _
    rw [pvL_stop (Or.inl rfl), hb b h1]
    split <;> rfl
  | succ r ih =>
    intro a b f h1 h2
    by_cases q : 1 ≤ a ∧ a ≤ 40
    · rw [pvL_go q.1 q.2, ih _ _ _ (by omega) (by omega), ih _ _ _ h1 (by omega), mixN_const (hD a f q.2 (by omega))]
    · rw [pvL_stop (by omega), hb b h1]
      split <;> rfl
theorem pvS_le {D : Nat → Nat → Nat → Nat} {P : Nat → Nat → Nat} {out M B : Nat} {W : Nat → Nat} (hD : ∀ t a f, t < 3 → a ≤ 40 → f ≤ 3 → D t a f ≤ 1000) (ho : out ≤ M) (hW : ∀ x, x ≤ B → W x ≤ M) : ∀ d s, d ≤ 3 → s + 40 * d ≤ B → pvS D P out W d s ≤ M := by
  intro d
  induction d with
  | zero => intro s _ h; exact hW s (by omega)
  | succ d ih =>
    intro s h1 h2
    exact pvL_le (fun a f => hD (2 - d) a f (by omega)) ho (fun b hb => ih (s + b) (by omega) (by omega)) 3 _ 0 0 (by omega) (by omega)
theorem pvS_congr {D : Nat → Nat → Nat → Nat} {P : Nat → Nat → Nat} {out B : Nat} {W W' : Nat → Nat} (hW : ∀ x, x ≤ B → W x = W' x) : ∀ d s, s + 40 * d ≤ B → pvS D P out W d s = pvS D P out W' d s := by
  intro d
  induction d with
  | zero => intro s h; exact hW s (by omega)
  | succ d ih =>
    intro s h2
    exact pvL_congr (fun b hb => ih (s + b) (by omega)) 3 _ 0 0 (by omega)
theorem pvS_shift {D : Nat → Nat → Nat → Nat} {P : Nat → Nat → Nat} {out e : Nat} {W : Nat → Nat} : ∀ d s, pvS D P out W d (s + e) = pvS D P out (fun x => W (x + e)) d s := by
  intro d
  induction d with
  | zero => intro s; rfl
  | succ d ih =>
    intro s
    refine pvL_congr (fun b hb => ?_) 3 _ 0 0 (by omega)
    show pvS D P out W d (s + e + b) = _
    rw [show s + e + b = (s + b) + e by omega, ih]
theorem pvS_const {D : Nat → Nat → Nat → Nat} {P : Nat → Nat → Nat} {c B : Nat} {W : Nat → Nat} (hD : ∀ t a f, t < 3 → a ≤ 40 → f ≤ 3 → D t a f ≤ 1000) (hW : ∀ x, x ≤ B → W x = c) : ∀ d s, d ≤ 3 → s + 40 * d ≤ B → pvS D P c W d s = c := by
  intro d
  induction d with
  | zero => intro s _ h; exact hW s (by omega)
  | succ d ih =>
    intro s h1 h2
    exact pvL_const (fun a f => hD (2 - d) a f (by omega)) (fun b hb => ih (s + b) (by omega) (by omega)) 3 _ 0 0 (by omega) (by omega)
/-! the class reckons it -/
def Fr48 (S S' : St) : Prop := S'.1 = S.1 ∧ S'.2.2 = S.2.2 ∧ ∀ a, (a < 48 ∨ 50 < a) → S'.2.1 a = S.2.1 a
theorem Fr48.rfl (S : St) : Fr48 S S := ⟨Eq.refl _, Eq.refl _, fun _ _ => Eq.refl _⟩
theorem Fr48.trans {S S' S2 : St} (h : Fr48 S S') (g : Fr48 S' S2) : Fr48 S S2 := ⟨g.1.trans h.1, g.2.1.trans h.2.1, fun a b => (g.2.2 a b).trans (h.2.2 a b)⟩
theorem Fr48.eqs {S S' : St} (h : Fr48 S S') : EqS S S' := ⟨fun i _ _ => by rw [h.1], fun a ha => h.2.2 a (by omega)⟩
def IV (k l : Nat) (T : St) (W : Nat → Nat) (out : Nat) (S : St) : Prop := (VR 30 25 k S T) ∧ (S.2.2.2 0 = some l) ∧ (S.2.2.2 1 = some 0) ∧ (S.1 61 = T.1 10) ∧ (S.1 60 = nI out) ∧ (∀ x, x < 242 → S.2.1 45 x = nI (W x)) ∧ (out ≤ 1000000) ∧ (∀ x, x < 242 → W x ≤ 1000000) ∧ (∀ t s, t < 3 → s + 40 * (3 - t) ≤ 241 → S.2.1 (48 + t) s = -1 ∨ S.2.1 (48 + t) s = nI (pvS (odN T l) (plN T l) out W (3 - t) s))
theorem IV.vr {k l : Nat} {T : St} {W : Nat → Nat} {out : Nat} {S : St} (h : IV k l T W out S) : VR 30 25 k S T := h.1
theorem IV.who {k l : Nat} {T : St} {W : Nat → Nat} {out : Nat} {S : St} (h : IV k l T W out S) : S.2.2.2 0 = some l := h.2.1
theorem IV.goal {k l : Nat} {T : St} {W : Nat → Nat} {out : Nat} {S : St} (h : IV k l T W out S) : S.2.2.2 1 = some 0 := h.2.2.1
theorem IV.tire {k l : Nat} {T : St} {W : Nat → Nat} {out : Nat} {S : St} (h : IV k l T W out S) : S.1 61 = T.1 10 := h.2.2.2.1
theorem IV.out60 {k l : Nat} {T : St} {W : Nat → Nat} {out : Nat} {S : St} (h : IV k l T W out S) : S.1 60 = nI out := h.2.2.2.2.1
theorem IV.worth {k l : Nat} {T : St} {W : Nat → Nat} {out : Nat} {S : St} (h : IV k l T W out S) : ∀ x, x < 242 → S.2.1 45 x = nI (W x) := h.2.2.2.2.2.1
theorem IV.outle {k l : Nat} {T : St} {W : Nat → Nat} {out : Nat} {S : St} (h : IV k l T W out S) : out ≤ 1000000 := h.2.2.2.2.2.2.1
theorem IV.Wle {k l : Nat} {T : St} {W : Nat → Nat} {out : Nat} {S : St} (h : IV k l T W out S) : ∀ x, x < 242 → W x ≤ 1000000 := h.2.2.2.2.2.2.2.1
theorem IV.memo {k l : Nat} {T : St} {W : Nat → Nat} {out : Nat} {S : St} (h : IV k l T W out S) : ∀ t s, t < 3 → s + 40 * (3 - t) ≤ 241 → S.2.1 (48 + t) s = -1 ∨ S.2.1 (48 + t) s = nI (pvS (odN T l) (plN T l) out W (3 - t) s) := h.2.2.2.2.2.2.2.2
theorem IV.fr {k l : Nat} {T : St} {W : Nat → Nat} {out : Nat} {S S' : St} (h : IV k l T W out S) (f : Fr48 S S') (m : ∀ t s, t < 3 → s + 40 * (3 - t) ≤ 241 → S'.2.1 (48 + t) s = -1 ∨ S'.2.1 (48 + t) s = nI (pvS (odN T l) (plN T l) out W (3 - t) s)) : IV k l T W out S' :=
  ⟨h.vr.congr f.eqs (EqT.rfl T), by rw [f.2.1]; exact h.who, by rw [f.2.1]; exact h.goal, by rw [f.1]; exact h.tire, by rw [f.1]; exact h.out60, fun x hx => by rw [f.2.2 45 (by omega)]; exact h.worth x hx, h.outle, h.Wle, m⟩
theorem IV.hD {k l : Nat} {T : St} {W : Nat → Nat} {out : Nat} {S : St} (h : IV k l T W out S) (hl : l < k) : ∀ t a f, t < 3 → a ≤ 40 → f ≤ 3 → odN T l t a f ≤ 1000 := fun _ _ _ ht ha hf => (od_nat h.vr hl ht ha hf).2
theorem onw_some {α : Type} {j n : Nat} {f : Nat → Option α} (h : j < n) : onw (some j) n f = f j := by
  show (if j < n then f j else none) = _
  rw [if_pos h]
theorem start8 {k l out : Nat} {T : St} {W : Nat → Nat} (hl : l < k) {vt : St → Int32 → Int32 → Int32 → Int32 → Int32 → Int32 → Option (Int32 × St)} {t : Nat} (ht : t ≤ 3)
    (hvt : t < 3 → ∀ S s, IV k l T W out S → s + 40 * (3 - t) ≤ 241 → ∃ S', vt S (nI t) (nI s) (nI (plN T l t 0)) 0 0 3 = some (nI (pvS (odN T l) (plN T l) out W (3 - t) s), S') ∧ Fr48 S S' ∧ IV k l T W out S') :
    ∀ S s, IV k l T W out S → s + 40 * (3 - t) ≤ 241 → ∃ S', m_X6_startOf vt S (nI t) (nI s) = some (nI (pvS (odN T l) (plN T l) out W (3 - t) s), S') ∧ Fr48 S S' ∧ IV k l T W out S' := by
  intro S s hI hs
  have hk := hI.vr.1
  unfold m_X6_startOf
  rw [if_neg (nI_pos (by omega)), lit32 242, ifltN (by omega) (by omega), if_pos (show s < 242 by omega), lit32 3, ifltN (by omega) (by omega)]
  by_cases c : t < 3
  · rw [if_pos c]
    simp only [nmE]
    have hle : pvS (odN T l) (plN T l) out W (3 - t) s ≤ 1000000 := pvS_le (B := 241) (hI.hD hl) hI.outle (fun x hx => hI.Wle x (by omega)) (3 - t) s (by omega) hs
    rw [ckN (by omega) (by omega), ckN (by omega) (by omega), clN (by omega), clN (by omega)]
    rcases hI.memo t s c hs with q | q
    · rw [q, if_neg (by decide), ckN (by omega) (by omega), hI.who, onw_some (by omega), ← lit32 3, m3, ckN (by omega) (by omega), clN (by omega)]
      have hp : S.2.1 (6 + 3 * l) (3 * t) = nI (plN T l t 0) := (((hI.vr.2.2.2.1 l hl).2.2.2.2.1 t c).1 0 (by omega)).trans ((pl_nat hI.vr hl c).1 0 (by omega))
      rw [hp]
      obtain ⟨S', e1, e2, e3⟩ := hvt c S s hI hs
      rw [e1]
      simp only [Option.bind_some]
      rw [ckN (by omega) (by omega)]
      simp only [Option.bind_some]
      rw [ckN (by omega) (by omega), ckN (by omega) (by omega), sA_eq]
      have hF : Fr48 S' (sA S' (48 + t) s (nI (pvS (odN T l) (plN T l) out W (3 - t) s))) := ⟨rfl, rfl, fun a ha => sA_row (by omega)⟩
      refine ⟨_, rfl, e2.trans hF, e3.fr hF (fun t' s' ht' hs' => ?_)⟩
      by_cases ct : t' = t
      · subst ct
        by_cases cs : s' = s
        · subst cs
          rw [sA_eq]; exact Or.inr rfl
        · rw [sA_ne cs]; exact e3.memo t' s' ht' hs'
      · rw [sA_row (by omega)]; exact e3.memo t' s' ht' hs'
    · rw [q, if_pos (nI_pos' (nI_lt31 (by omega)))]
      simp only [Option.bind_some]
      rw [ckN (by omega) (by omega), ckN (by omega) (by omega), q]
      exact ⟨S, rfl, Fr48.rfl S, hI⟩
  · rw [if_neg c, hI.goal, onw_some (by omega), ckN (by omega) (by omega), clN (by omega), hI.worth s (by omega)]
    have : t = 3 := by omega
    subst this
    exact ⟨S, rfl, Fr48.rfl S, hI⟩
theorem val8 {k l out : Nat} {T : St} {W : Nat → Nat} (hl : l < k) : ∀ g S t s a b f r, IV k l T W out S → t ≤ 2 → r + 1 + 4 * (2 - t) ≤ g → b ≤ 40 → f + r ≤ 3 → a ≤ 1000 → s + 40 * (3 - t) ≤ 241 →
    ∃ S', m_X6_valueOfTry g S (nI t) (nI s) (nI a) (nI b) (nI f) (nI r) = some (nI (pvL (odN T l t) (plN T l t 1) (plN T l t 2) out (fun b => pvS (odN T l) (plN T l) out W (2 - t) (s + b)) r a b f), S') ∧ Fr48 S S' ∧ IV k l T W out S' := by
  intro g
  induction g with
  | zero => intro S t s a b f r _ _ h; omega
  | succ g ih =>
    intro S t s a b f r hI ht hg hb hf ha hs
    have hk := hI.vr.1
    have hbeh : ∃ S', (if nI b = 0 then (onw (S.2.2.2 1) 1 (fun _ => some (S.1 60, S))) else ((m_X6_startOf (m_X6_valueOfTry g) S (nI t + 1) (nI s + nI b)).bind (fun r3 => some (r3.1, r3.2))) : Option (Int32 × St)) = some (nI (if b = 0 then out else pvS (odN T l) (plN T l) out W (2 - t) (s + b)), S') ∧ Fr48 S S' ∧ IV k l T W out S' := by
      rw [if0N (by omega)]
      by_cases c : b = 0
      · rw [if_pos c, if_pos c, hI.goal, onw_some (by omega), hI.out60]
        exact ⟨S, rfl, Fr48.rfl S, hI⟩
      · rw [if_neg c, if_neg c, s1, nI_add]
        obtain ⟨S', e1, e2, e3⟩ := start8 hl (vt := m_X6_valueOfTry g) (t := t + 1) (by omega) (fun ht3 S2 s2 hI2 hs2 => by
          obtain ⟨S', q1, q2, q3⟩ := ih S2 (t + 1) s2 (plN T l (t + 1) 0) 0 0 3 hI2 (by omega) (by omega) (by omega) (by omega) (by have := (pl_nat hI.vr hl ht3).2.2.1; omega) hs2
          refine ⟨S', ?_, q2, q3⟩
          rw [show m_X6_valueOfTry g S2 (nI (t + 1)) (nI s2) (nI (plN T l (t + 1) 0)) 0 0 3 = _ from q1, show 3 - (t + 1) = (2 - (t + 1)) + 1 by omega]
          show _ = some (nI (pvL (odN T l (2 - (2 - (t + 1)))) (plN T l (2 - (2 - (t + 1))) 1) (plN T l (2 - (2 - (t + 1))) 2) out (fun b => pvS (odN T l) (plN T l) out W (2 - (t + 1)) (s2 + b)) 3 (plN T l (2 - (2 - (t + 1))) 0) 0 0), S')
          rw [show 2 - (2 - (t + 1)) = t + 1 by omega]) S (s + b) hI (by omega)
        rw [e1]
        refine ⟨S', ?_, e2, e3⟩
        rw [show 3 - (t + 1) = 2 - t by omega]
        rfl
    obtain ⟨Sb, hb1, hb2, hb3⟩ := hbeh
    unfold m_X6_valueOfTry
    rw [ifle0N (by omega), lit32 1, ifltN (by omega) (by omega), lit32 40, ifleN (by omega) (by omega), ← lit32 1]
    by_cases cr : r ≤ 0
    · rw [if_pos cr, hb1, pvL_stop (by omega)]
      exact ⟨Sb, rfl, hb2, hb3⟩
    · rw [if_neg cr]
      by_cases ca : a < 1
      · rw [if_pos ca, hb1, pvL_stop (by omega)]
        exact ⟨Sb, rfl, hb2, hb3⟩
      · rw [if_neg ca]
        by_cases ca2 : a ≤ 40
        · rw [if_pos ca2]
          obtain ⟨r, rfl⟩ : ∃ q, r = q + 1 := ⟨r - 1, by omega⟩
          obtain ⟨pe, p1, p2, p3, p4, p5⟩ := pl_nat hI.vr hl (show t < 3 by omega)
          have hpl : ∀ X : St, IV k l T W out X → ∀ w, w < 3 → X.2.1 (6 + 3 * l) (3 * t + w) = nI (plN T l t w) := fun X hX w hw => (((hX.vr.2.2.2.1 l hl).2.2.2.2.1 t (by omega)).1 w hw).trans (pe w hw)
          rw [hI.who, onw_some (by omega), m3, s1, s2, ckN (by omega) (by omega), clN (by omega), hpl S hI 1 (by omega), nI_add, mx_nat (by omega) (by omega), nI_pred]
          obtain ⟨S1, e1, e2, e3⟩ := ih S t s (a + plN T l t 1) (max b a) f r hI ht (by omega) (by omega) (by omega) (by omega) hs
          rw [e1]
          simp only [Option.bind_some]
          rw [e3.who, onw_some (by omega), ckN (by omega) (by omega), clN (by omega), hpl S1 e3 2 (by omega), nI_add, s1]
          obtain ⟨S2, f1, f2, f3⟩ := ih S1 t s (a + plN T l t 2) b (f + 1) r e3 ht (by omega) (by omega) (by omega) (by omega) hs
          rw [f1]
          simp only [Option.bind_some]
          rw [f3.who, onw_some (by omega), f3.tire, odds8 f3.vr hl (show t < 3 by omega) (by omega) ca2]
          simp only [Option.bind_some]
          have eo : mx 0 (tabT T l t (nI a) - nI f * T.1 10) = nI (odN T l t a f) := by
            rw [← (od_nat f3.vr hl (show t < 3 by omega) ca2 (show f ≤ 3 by omega)).1, Int32.mul_comm]; rfl
          have hDD : ∀ a f, a ≤ 40 → f ≤ 3 → odN T l t a f ≤ 1000 := fun a f => hI.hD hl t a f (by omega)
          have hbl : ∀ b, b ≤ 40 → pvS (odN T l) (plN T l) out W (2 - t) (s + b) ≤ 1000000 := fun b hb => pvS_le (B := 241) (hI.hD hl) hI.outle (fun x hx => hI.Wle x (by omega)) (2 - t) (s + b) (by omega) (by omega)
          rw [eo, mix8 S2 (hDD a f ca2 (by omega)) (pvL_le hDD hI.outle hbl _ _ _ _ (by omega) (by omega)) (pvL_le hDD hI.outle hbl _ _ _ _ hb (by omega)), pvL_go (by omega) ca2]
          exact ⟨S2, rfl, e2.trans f2, f3⟩
        · rw [if_neg ca2, hb1, pvL_stop (by omega)]
          exact ⟨Sb, rfl, hb2, hb3⟩
/-! the reference reckons it -/
theorem plan9_val {n k l : Nat} {S T : St} {W : Nat → Nat} {ib ab : Nat} (hv : VR ib ab k S T) (hl : l < k) (hn : 7 ≤ n) (hW : ∀ x, x ≤ 120 → T.2.1 28 x = nI (W x)) (hWle : ∀ x, x ≤ 120 → W x ≤ 1000000) : ∀ g t s a b f r rd, t ≤ 2 → r + 1 + 4 * (2 - t) ≤ g → rd + r = 3 → b ≤ 40 → f + r ≤ 3 → a ≤ 40 → s + 40 * (3 - t) ≤ 120 →
    m_X9_planned n g T (nI l) (nI t) (nI rd) (nI a) (nI f) (nI b) (nI s) = some (nI (pvL (odN T l t) (plN T l t 1) (plN T l t 2) (W 0) (fun b => pvS (odN T l) (plN T l) (W 0) W (2 - t) (s + b)) r a b f)) := by
  have hk := hv.1
  have hDD : ∀ t a f, t < 3 → a ≤ 40 → f ≤ 3 → odN T l t a f ≤ 1000 := fun t a f ht ha hf => (od_nat hv hl ht ha hf).2
  intro g
  induction g with
  | zero => intro t s a b f r rd _ h; omega
  | succ g ih =>
    intro t s a b f r rd ht hg hrd hb hf ha hs
    obtain ⟨pe, p1, p2, p3, p4, p5⟩ := pl_nat hv hl (show t < 3 by omega)
    have hbeh : (m_X9_plannedBehind (m_X9_planned n g) T (nI l) (nI t) (nI b) (nI s)).bind (fun r2 => some r2) = some (nI (if b = 0 then W 0 else pvS (odN T l) (plN T l) (W 0) W (2 - t) (s + b))) := by
      unfold m_X9_plannedBehind
      rw [if0N (by omega)]
      by_cases c : b = 0
      · rw [if_pos c, if_pos c, show ∀ x : Option Int32, ck 0 122 x = x from fun x => rfl, show (0 : Int32).toNatClampNeg = 0 from rfl, hW 0 (by omega)]
        rfl
      · rw [if_neg c, if_neg c, lit32 2, ifeqN (by omega) (by omega), nI_add]
        by_cases c2 : t = 2
        · subst c2
          rw [if_pos rfl, ckN (by omega) (by omega), clN (by omega), hW (s + b) (by omega)]
          rfl
        · rw [if_neg c2, s1, show m_X9_planOf T (nI l) (nI (t + 1)) 0 = _ from planOf9 (w := 0) (by omega) (show t + 1 < 3 by omega) (by omega), (pl_nat hv hl (show t + 1 < 3 by omega)).1 0 (by omega)]
          simp only [Option.bind_some]
          rw [show m_X9_planned n g T (nI l) (nI (t + 1)) 0 (nI (plN T l (t + 1) 0)) 0 0 (nI (s + b)) = _ from ih (t + 1) (s + b) (plN T l (t + 1) 0) 0 0 3 0 (by omega) (by omega) (by omega) (by omega) (by omega) (pl_nat hv hl (show t + 1 < 3 by omega)).2.2.1 (by omega)]
          simp only [Option.bind_some]
          have hS : ∀ d, d < 3 → pvS (odN T l) (plN T l) (W 0) W (d + 1) (s + b) = pvL (odN T l (2 - d)) (plN T l (2 - d) 1) (plN T l (2 - d) 2) (W 0) (fun b' => pvS (odN T l) (plN T l) (W 0) W d (s + b + b')) 3 (plN T l (2 - d) 0) 0 0 := fun d _ => rfl
          rw [show 2 - t = (2 - (t + 1)) + 1 by omega, hS (2 - (t + 1)) (by omega), show 2 - (2 - (t + 1)) = t + 1 by omega]
    unfold m_X9_planned
    rw [if0N (by omega), lit32 3, ifeqN (by omega) (by omega)]
    by_cases ca : a = 0
    · rw [if_pos ca, hbeh, pvL_stop (by omega)]
    · rw [if_neg ca]
      by_cases cr : rd = 3
      · rw [if_pos cr, hbeh, pvL_stop (by omega)]
      · rw [if_neg cr]
        obtain ⟨r, rfl⟩ : ∃ q, r = q + 1 := ⟨r - 1, by omega⟩
        have hnx : ∀ pl b f, b ≤ 40 → f + r ≤ 3 → pl ≤ 9 → m_X9_planned n g T (nI l) (nI t) (nI (rd + 1)) (nxA rd a pl) (nI f) (nI b) (nI s) = some (nI (pvL (odN T l t) (plN T l t 1) (plN T l t 2) (W 0) (fun b => pvS (odN T l) (plN T l) (W 0) W (2 - t) (s + b)) r (a + pl) b f)) := fun pl b f hb hf hpl => by
          unfold nxA
          by_cases q : rd = 2
          · rw [if_pos q, show (0 : Int32) = nI 0 from rfl, ih t s 0 b f r (rd + 1) ht (by omega) (by omega) hb hf (by omega) hs, pvL_stop (by omega), pvL_stop (by omega)]
          · rw [if_neg q]
            by_cases q2 : a + pl ≤ 40
            · rw [if_pos q2, ih t s (a + pl) b f r (rd + 1) ht (by omega) (by omega) hb hf q2 hs]
            · rw [if_neg q2, show (0 : Int32) = nI 0 from rfl, ih t s 0 b f r (rd + 1) ht (by omega) (by omega) hb hf (by omega) hs, pvL_stop (by omega), pvL_stop (by omega)]
        rw [asks9 (pl := plN T l t 1) 1 (show l < 6 by omega) (show t < 3 by omega) (show rd ≤ 2 by omega) ha (by omega) (pe 1 (by omega))]
        simp only [Option.bind_some]
        rw [s1, mx_nat (by omega) (by omega), hnx _ _ _ (by omega) (by omega) (by omega)]
        simp only [Option.bind_some]
        rw [asks9 (pl := plN T l t 2) 0 (show l < 6 by omega) (show t < 3 by omega) (show rd ≤ 2 by omega) ha (by omega) (pe 2 (by omega))]
        simp only [Option.bind_some]
        rw [s1, hnx _ _ _ hb (by omega) (by omega)]
        simp only [Option.bind_some]
        have hbl : ∀ b, b ≤ 40 → pvS (odN T l) (plN T l) (W 0) W (2 - t) (s + b) ≤ 1000000 := fun b hb => pvS_le (B := 120) hDD (hWle 0 (by omega)) hWle (2 - t) (s + b) (by omega) (by omega)
        rw [odds9 hv hl (show t < 3 by omega) hn, (od_nat hv hl (show t < 3 by omega) ha (show f ≤ 3 by omega)).1]
        simp only [Option.bind_some]
        rw [exp9 T (hDD t a f (by omega) ha (by omega)) (pvL_le (fun a f => hDD t a f (by omega)) (hWle 0 (by omega)) hbl _ _ _ _ (by omega) (by omega)) (pvL_le (fun a f => hDD t a f (by omega)) (hWle 0 (by omega)) hbl _ _ _ _ hb (by omega)), pvL_go (by omega) ha]
        rfl
