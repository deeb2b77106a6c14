/-! ===== layer B: the best loads; the class's tables ===== -/
theorem odN_mono {ib ab k l t x f : Nat} {S T : St} (hv : VR ib ab k S T) (hl : l < k) (ht : t < 3) (hx : x ≤ 40) (hf : f ≤ 3) : odN T l t x f ≤ odN T l t x 0 := by
  obtain ⟨v, hv1, ev⟩ := tabT_nat hv hl ht hx
  obtain ⟨q, hq, eq⟩ := hv.2.2.1.nat (n := 300)
  have key : ∀ f, f ≤ 3 → odN T l t x f = v - q * f := fun f hf => by
    have hb : q * f ≤ 300 * 3 := Nat.mul_le_mul hq hf
    have e : od T l t (nI x) (nI f) = nI (v - q * f) := by
      unfold od
      rw [ev, eq, pk_mul]
      unfold mx
      by_cases c : q * f ≤ v
      · rw [subN c, show (0 : Int32) = nI 0 from rfl, ifltN (by omega) (by omega)]
        by_cases c2 : 0 < v - q * f
        · rw [if_pos c2]
        · rw [if_neg c2, show v - q * f = 0 by omega]
      · rw [if_neg, show v - q * f = 0 by omega]; rfl
        rw [lt32, pk_sub_toInt (by omega) (by omega)]
        have : Int32.toInt 0 = 0 := rfl
        omega
    unfold odN
    rw [e, clN (by omega)]
  rw [key f hf, key 0 (by omega)]
  omega
/-- above the top nothing is made -/
theorem fv_top {D : Nat → Nat → Nat} {out top : Nat} {beh : Nat → Nat} (hD : ∀ x f, top < x → x ≤ 40 → f ≤ 2 → D x f = 0) : ∀ j f L b, f + j ≤ 3 → top < L → fv D out beh j f L b = fE out beh b := by
  intro j
  induction j with
  | zero => intro f L b _ _; rfl
  | succ j ih =>
    intro f L b hf hL
    by_cases c : 40 < L
    · exact fv_hi (Or.inl c)
    · rw [fv_go (by omega), bst_const (c := fE out beh b)]
      intro y h1 h2
      unfold fg mixN
      rw [hD y f (by omega) (by omega) (by omega), ih (f + 1) y b (by omega) (by omega)]
      omega
/-! the greatest, ahead of its cut -/
theorem bst_max {g : Nat → Nat} {d x : Nat} : (bst g (d + 1) x).1 = max (bst g d (x + 1)).1 (g x) := by
  show (if g x < (bst g d (x + 1)).1 then bst g d (x + 1) else (g x, x)).1 = _
  split
  · omega
  · show g x = _; omega
theorem bst_div {g : Nat → Nat} : ∀ d x, (bst (fun y => g y / 1000) d x).1 = (bst g d x).1 / 1000 := by
  intro d
  induction d with
  | zero => intro x; rfl
  | succ d ih =>
    intro x
    rw [bst_max, bst_max, ih (x + 1)]
    show max ((bst g d (x + 1)).1 / 1000) (g x / 1000) = _
    omega
/-- v is the greatest of g above x -/
def RV (g : Nat → Nat) (x : Nat) (v : Int32) : Prop := (x = 40 ∧ v = -1) ∨ (x < 40 ∧ v = nI (bst g (39 - x) (x + 1)).1)
theorem RV.step {g : Nat → Nat} {x : Nat} {v : Int32} (h : RV g (x + 1) v) (hg : ∀ y, y ≤ 40 → g y ≤ 1000000000) (hx : x + 1 ≤ 40) : RV g x (mx v (nI (g (x + 1)))) ∧ mx v (nI (g (x + 1))) = nI (bst g (39 - x) (x + 1)).1 := by
  have key : mx v (nI (g (x + 1))) = nI (bst g (39 - x) (x + 1)).1 := by
    have hgx := hg (x + 1) hx
    rcases h with ⟨h1, h2⟩ | ⟨h1, h2⟩
    · rw [h2, show 39 - x = 0 by omega]
      unfold mx
      rw [if_pos]
      · rfl
      · rw [lt32, tiN (by omega)]
        have : Int32.toInt (-1) = -1 := rfl
        omega
    · have hle := bst_le (g := g) (M := 1000000000) (39 - (x + 1)) (x + 1 + 1) (fun y _ h2 => hg y (by omega))
      rw [h2, mx_nat (by omega) (by omega), show 39 - x = (39 - (x + 1)) + 1 by omega, bst_max]
  exact ⟨Or.inr ⟨by omega, key⟩, key⟩
theorem RV.first {g : Nat → Nat} {top c : Nat} {v : Int32} (ht : top ≤ 40) (hg : ∀ x, top < x → x ≤ 40 → g x = 1000 * c) (hv : v = if 40 ≤ top then -1 else nI (1000 * c)) : RV g top v := by
  by_cases h : 40 ≤ top
  · rw [if_pos h] at hv; exact Or.inl ⟨by omega, hv⟩
  · rw [if_neg h] at hv
    refine Or.inr ⟨by omega, ?_⟩
    rw [hv, bst_const (c := 1000 * c)]
    intro y h1 h2
    exact hg y (by omega) (by omega)
theorem mx_one (v : Int32) (a b : Nat) (h : mx v (nI a) = nI b) : mx v (nI a) = nI b := h
/-- numbers ahead of the cut -/
def nuN (p A B : Nat) : Nat := p * A + (1000 - p) * B
theorem nuN_le {p A B : Nat} (hp : p ≤ 1000) (hA : A ≤ 1000000) (hB : B ≤ 1000000) : nuN p A B ≤ 1000000000 := by
  have := mixN_sum hp hA hB
  unfold nuN
  omega
theorem nuN_mix (p A B : Nat) : mixN p A B = nuN p A B / 1000 := rfl
theorem nu8 {p A B : Nat} (hp : p ≤ 1000) (hA : A ≤ 1000000) (hB : B ≤ 1000000) : 1000 * nI B + nI p * (nI A - nI B) = nI (nuN p A B) := by
  unfold nuN
  have h3 : p * B + (1000 - p) * B = 1000 * B := by rw [← Nat.add_mul]; congr 1; omega
  rw [lit32 1000, pk_mul]
  rcases Nat.le_total B A with h | h
  · have h1 : p * (A - B) = p * A - p * B := Nat.mul_sub p A B
    have h2 : p * B ≤ p * A := Nat.mul_le_mul_left p h
    rw [subN h, pk_mul, nI_add]
    congr 1
    omega
  · have h1 : p * (B - A) = p * B - p * A := Nat.mul_sub p B A
    have h2 : p * A ≤ p * B := Nat.mul_le_mul_left p h
    have e : nI A - nI B = -(nI (B - A)) := by
      rw [← subN h, Int32.neg_sub]
    rw [e, Int32.mul_neg, pk_mul, ← Int32.sub_eq_add_neg, subN (by omega)]
    congr 1
    omega
theorem first8 (S F : St) {top e : Nat} (ht : top ≤ 40) (he : e ≤ 1000000) : m_X2_atFirst S F (nI top) (nI e) = some (if 40 ≤ top then -1 else nI (1000 * e)) := by
  unfold m_X2_atFirst
  rw [lit32 40, ifleN (by omega) (by omega), lit32 1000, pk_mul]
  split <;> rfl
/-! the tables of the class -/
def FI (k l : Nat) (T : St) (W : Nat → Nat) (out : Nat) (tp : Nat → Nat) (F : St) : Prop :=
  (F.1 63 = nI out ∧ out ≤ 1000000 ∧ ∀ x, x < 242 → W x ≤ 1000000) ∧ (∀ t f x, t < 3 → f < 3 → 1 ≤ x → x ≤ 40 → F.2.1 (61 + (3 * t + f)) x = nI (odN T l t x f)) ∧ (∀ t, t < 3 → F.2.1 70 t = nI (tp t) ∧ tp t ≤ 40 ∧ ∀ x f, tp t < x → x ≤ 40 → f ≤ 2 → odN T l t x f = 0) ∧
  (∀ x, x < 242 → F.2.1 75 x = nI (W x)) ∧ (∀ t s, t < 3 → s + 40 * (3 - t) ≤ 241 → F.2.1 (72 + t) s = -1 ∨ F.2.1 (72 + t) s = nI (fS (odN T l) out W (3 - t) s))
/-- what a reckoning of starts leaves -/
def Keep (F F' : St) : Prop := F'.1 63 = F.1 63 ∧ (∀ a, (a < 72 ∨ a = 75) → F'.2.1 a = F.2.1 a) ∧ (∀ t s, t < 3 → F.2.1 (72 + t) s ≠ -1 → F'.2.1 (72 + t) s = F.2.1 (72 + t) s) ∧ F'.2.2 = F.2.2
theorem Keep.rfl (F : St) : Keep F F := ⟨Eq.refl _, fun _ _ => Eq.refl _, fun _ _ _ _ => Eq.refl _, Eq.refl _⟩
theorem Keep.trans {F F' F2 : St} (h : Keep F F') (g : Keep F' F2) : Keep F F2 := by
  refine ⟨g.1.trans h.1, fun a ha => (g.2.1 a ha).trans (h.2.1 a ha), fun t s ht q => ?_, g.2.2.2.trans h.2.2.2⟩
  have := h.2.2.1 t s ht q
  rw [← this] at q
  rw [g.2.2.1 t s ht q, this]
/-- tables of lift t, sum s -/
def TabF (D : Nat → Nat → Nat) (out : Nat) (beh : Nat → Nat) (t s top : Nat) (F : St) : Prop :=
  F.1 64 = nI t ∧ F.1 65 = nI s ∧ (∀ x, 1 ≤ x → x ≤ top → F.2.1 (72 + (t + 1)) (s + x) = nI (beh x)) ∧
  (∀ b, 1 ≤ b → b ≤ top → F.2.1 76 b = nI (fv D out beh 1 0 (b + 1) b)) ∧ (∀ b x, 1 ≤ b → b < x → x ≤ top + 1 → b ≤ top → F.2.1 77 (42 * b + x) = nI (fv D out beh 1 1 x b)) ∧ (∀ x, 1 ≤ x → x ≤ top → F.2.1 78 x = nI (fv D out beh 1 2 x 0)) ∧
  (∀ b, 1 ≤ b → b ≤ top → F.2.1 79 b = nI (fv D out beh 2 0 (b + 1) b)) ∧ (∀ x, 1 ≤ x → x ≤ top → F.2.1 80 x = nI (fv D out beh 2 1 x 0))
/-- what filling rests on -/
def FH (D : Nat → Nat → Nat) (out : Nat) (beh : Nat → Nat) (t s top : Nat) (F : St) : Prop :=
  t < 3 ∧ top ≤ 40 ∧ s + 40 ≤ 241 ∧ out ≤ 1000000 ∧ (∀ b, b ≤ 40 → beh b ≤ 1000000) ∧ (∀ x f, x ≤ 40 → f ≤ 3 → D x f ≤ 1000) ∧ (∀ x f, top < x → x ≤ 40 → f ≤ 2 → D x f = 0) ∧
  F.1 63 = nI out ∧ F.1 64 = nI t ∧ F.1 65 = nI s ∧ (∀ f x, f < 3 → 1 ≤ x → x ≤ 40 → F.2.1 (61 + (3 * t + f)) x = nI (D x f)) ∧ (∀ x, 1 ≤ x → x ≤ top → F.2.1 (72 + (t + 1)) (s + x) = nI (beh x))
theorem FH.fr {D : Nat → Nat → Nat} {out t s top : Nat} {beh : Nat → Nat} {F F' : St} (h : FH D out beh t s top F) (e1 : F'.1 = F.1) (e2 : ∀ a, a < 76 → F'.2.1 a = F.2.1 a) : FH D out beh t s top F' := by
  obtain ⟨h1, h2, h3, h4, h5, h6, h7, h8, h9, h10, h11, h12⟩ := h
  exact ⟨h1, h2, h3, h4, h5, h6, h7, by rw [e1]; exact h8, by rw [e1]; exact h9, by rw [e1]; exact h10, fun f x q1 q2 q3 => by rw [e2 _ (by omega)]; exact h11 f x q1 q2 q3, fun x q1 q2 => by rw [e2 _ (by omega)]; exact h12 x q1 q2⟩
theorem fv_one {D : Nat → Nat → Nat} {out : Nat} {beh : Nat → Nat} {f L b : Nat} (hL : L ≤ 40) : fv D out beh 1 f L b = (bst (fun x => nuN (D x f) (fE out beh x) (fE out beh b)) (40 - L) L).1 / 1000 := by
  rw [fv_go hL, ← bst_div]
  rfl
theorem one105_L {D : Nat → Nat → Nat} {out t s top b e : Nat} {beh : Nat → Nat} (he : e = beh b) (hb1 : 1 ≤ b) (S : St) (k5 : Nat) : ∀ d x n F v8 v9, x = b + d → x ≤ top → d + 1 ≤ n → FH D out beh t s top F → RV (fun x => nuN (D x 0) (fE out beh x) e) x v8 → RV (fun x => nuN (D x 1) (fE out beh x) e) x v9 →
    (∀ y, x < y → y ≤ top + 1 → F.2.1 77 (42 * b + y) = nI (fv D out beh 1 1 y b)) →
    ∃ F' v, m_X2_fillOne_L105 n S F (nI top) (t + 1) (3 * t + 0) (3 * t + 1) k5 (nI b) (nI e) v8 v9 (nI x) = some (F', v) ∧ RV (fun x => nuN (D x 0) (fE out beh x) e) b v ∧ F'.1 = F.1 ∧ F'.2.2 = F.2.2 ∧ (∀ a, a ≠ 77 → F'.2.1 a = F.2.1 a) ∧ (∀ y, (y < 42 * b ∨ 42 * b + 42 ≤ y) → F'.2.1 77 y = F.2.1 77 y) ∧ (∀ y, b < y → y ≤ top + 1 → F'.2.1 77 (42 * b + y) = nI (fv D out beh 1 1 y b)) := by
  intro d
  induction d with
  | zero =>
    intro x n F v8 v9 hx hxt hn hH h8 h9 hc
    obtain ⟨m, rfl⟩ : ∃ m, n = m + 1 := ⟨n - 1, by omega⟩
    have htop := hH.2.1
    refine ⟨F, v8, ?_, by rw [show b = x by omega]; exact h8, rfl, rfl, fun _ _ => rfl, fun _ _ => rfl, fun y h1 h2 => hc y (by omega) h2⟩
    unfold m_X2_fillOne_L105
    rw [if_pos (show nI x ≤ nI b by rw [leN (by omega) (by omega)]; omega)]
  | succ d ih =>
    intro x n F v8 v9 hx hxt hn hH h8 h9 hc
    obtain ⟨m, rfl⟩ : ∃ m, n = m + 1 := ⟨n - 1, by omega⟩
    obtain ⟨q, rfl⟩ : ∃ q, x = q + 1 := ⟨x - 1, by omega⟩
    obtain ⟨h1, htop, h3, h4, h5, h6, h7, h63, h64, h65, h11, h12⟩ := id hH
    have hfE : ∀ y, y ≤ 40 → fE out beh y ≤ 1000000 := fun y hy => fE_le h4 (h5 y hy)
    have hele : e ≤ 1000000 := by rw [he]; exact h5 b (by omega)
    have hgl : ∀ f, f ≤ 3 → ∀ y, y ≤ 40 → (fun x => nuN (D x f) (fE out beh x) e) y ≤ 1000000000 := fun f hf y hy => nuN_le (h6 y f hy hf) (hfE y hy) hele
    obtain ⟨r8, r8'⟩ := h8.step (hgl 0 (by omega)) (by omega)
    obtain ⟨r9, r9'⟩ := h9.step (hgl 1 (by omega)) (by omega)
    have hEx : fE out beh (q + 1) = beh (q + 1) := by unfold fE; rw [if_neg (by omega)]
    have hEb : fE out beh b = e := by unfold fE; rw [if_neg (by omega), he]
    have hval : (bst (fun x => nuN (D x 1) (fE out beh x) e) (39 - q) (q + 1)).1 / 1000 = fv D out beh 1 1 (q + 1) b := by
      rw [fv_one (by omega), hEb, show 40 - (q + 1) = 39 - q by omega]
    have hbl := bst_le (g := fun x => nuN (D x 1) (fE out beh x) e) (M := 1000000000) (39 - q) (q + 1) (fun y _ h2 => hgl 1 (by omega) y (by omega))
    have hF1 : FH D out beh t s top (sA F 77 (42 * b + (q + 1)) (nI (fv D out beh 1 1 (q + 1) b))) := hH.fr rfl (fun a ha => sA_row (by omega))
    obtain ⟨F', v, g1, g2, g3, g4, g5, g6, g7⟩ := ih q m (sA F 77 (42 * b + (q + 1)) (nI (fv D out beh 1 1 (q + 1) b))) _ _ (by omega) (by omega) (by omega) hF1 r8 r9 (fun y h1 h2 => by
      by_cases c : y = q + 1
      · subst c; exact sA_eq
      · rw [sA_ne (by omega)]; exact hc y (by omega) h2)
    refine ⟨F', v, ?_, g2, g3, g4, fun a ha => (g5 a ha).trans (sA_row ha), fun y hy => (g6 y hy).trans (sA_ne (by omega)), g7⟩
    unfold m_X2_fillOne_L105
    simp only [nmE]
    rw [if_neg (show ¬ nI (q + 1) ≤ nI b by rw [leN (by omega) (by omega)]; omega), h65, nI_add, ckN (by omega) (by omega), clN (by omega), clN (by omega), h12 (q + 1) (by omega) (by omega), ckN (by omega) (by omega), ckN (by omega) (by omega), show F.2.1 (61 + (3 * t + 0)) (q + 1) = nI (D (q + 1) 0) from h11 0 (q + 1) (by omega) (by omega) (by omega), show F.2.1 (61 + (3 * t + 1)) (q + 1) = nI (D (q + 1) 1) from h11 1 (q + 1) (by omega) (by omega) (by omega), nu8 (h6 _ _ (by omega) (by omega)) (h5 _ (by omega)) hele, nu8 (h6 _ _ (by omega) (by omega)) (h5 _ (by omega)) hele, ← hEx, show nI b * 42 + nI (q + 1) = nI (42 * b + (q + 1)) by rw [lit32 42, pk_mul, nI_add, Nat.mul_comm], ckN (by omega) (by omega), clN (by omega), pk_m1]
    rw [show mx v9 (nI (nuN (D (q + 1) 1) (fE out beh (q + 1)) e)) / 1000 = nI (fv D out beh 1 1 (q + 1) b) by
      rw [show mx v9 (nI (nuN (D (q + 1) 1) (fE out beh (q + 1)) e)) = _ from r9', lit32 1000, pk_div (nI_lt31 (by omega)) (by omega) (nI_lt31 (by omega)), hval]]
    exact g1
theorem one45_L {D : Nat → Nat → Nat} {out t s top : Nat} {beh : Nat → Nat} (S : St) (k5 : Nat) : ∀ d b n F, b + d = top + 1 → 1 ≤ b → d + 50 ≤ n → FH D out beh t s top F → (∀ b', 1 ≤ b' → b' < b → F.2.1 76 b' = nI (fv D out beh 1 0 (b' + 1) b')) → (∀ b' x, 1 ≤ b' → b' < b → b' < x → x ≤ top + 1 → F.2.1 77 (42 * b' + x) = nI (fv D out beh 1 1 x b')) →
    ∃ F', m_X2_fillOne_L45 n S F (nI top) (t + 1) (3 * t + 0) (3 * t + 1) k5 (nI b) = some F' ∧ F'.1 = F.1 ∧ F'.2.2 = F.2.2 ∧ (∀ a, a ≠ 76 → a ≠ 77 → F'.2.1 a = F.2.1 a) ∧ (∀ b', 1 ≤ b' → b' ≤ top → F'.2.1 76 b' = nI (fv D out beh 1 0 (b' + 1) b')) ∧ (∀ b' x, 1 ≤ b' → b' ≤ top → b' < x → x ≤ top + 1 → F'.2.1 77 (42 * b' + x) = nI (fv D out beh 1 1 x b')) := by
  intro d
  induction d with
  | zero =>
    intro b n F hb hb1 hn hH h76 h77
    obtain ⟨m, rfl⟩ : ∃ m, n = m + 1 := ⟨n - 1, by omega⟩
    have htop := hH.2.1
    refine ⟨F, ?_, rfl, rfl, fun _ _ _ => rfl, fun b' h1 h2 => h76 b' h1 (by omega), fun b' x h1 h2 => h77 b' x h1 (by omega)⟩
    unfold m_X2_fillOne_L45
    rw [if_pos (show nI top < nI b by rw [ltN (by omega) (by omega)]; omega)]
  | succ d ih =>
    intro b n F hb hb1 hn hH h76 h77
    obtain ⟨m, rfl⟩ : ∃ m, n = m + 1 := ⟨n - 1, by omega⟩
    obtain ⟨h1, htop, h3, h4, h5, h6, h7, h63, h64, h65, h11, h12⟩ := id hH
    have hEb : fE out beh b = beh b := by unfold fE; rw [if_neg (by omega)]
    have hele : beh b ≤ 1000000 := h5 b (by omega)
    have htopv : ∀ j f L, f + j ≤ 3 → top < L → fv D out beh j f L b = beh b := fun j f L q1 q2 => by rw [fv_top h7 j f L b q1 q2, hEb]
    have hF1 : FH D out beh t s top (sA F 77 (42 * b + (top + 1)) (nI (beh b))) := hH.fr rfl (fun a ha => sA_row (by omega))
    have hfirst : ∀ f, f ≤ 2 → RV (fun x => nuN (D x f) (fE out beh x) (beh b)) top (if 40 ≤ top then -1 else nI (1000 * beh b)) := fun f hf => RV.first (c := beh b) htop (fun x q1 q2 => by
      show nuN (D x f) (fE out beh x) (beh b) = _
      unfold nuN
      rw [h7 x f q1 q2 hf]
      omega) rfl
    obtain ⟨F2, v, g1, g2, g3, g4, g5, g6, g7⟩ := one105_L (b := b) (e := beh b) rfl hb1 S k5 (top - b) top m (sA F 77 (42 * b + (top + 1)) (nI (beh b))) _ _ (by omega) (by omega) (by omega) hF1 (hfirst 0 (by omega)) (hfirst 1 (by omega)) (fun y q1 q2 => by rw [show y = top + 1 by omega, sA_eq, htopv 1 1 (top + 1) (by omega) (by omega)])
    have hH2 : FH D out beh t s top F2 := hF1.fr g3 (fun a ha => g5 a (by omega))
    have hfin : ∀ w, w = nI (fv D out beh 1 0 (b + 1) b) → ∃ F', m_X2_fillOne_L45 m S (sA F2 76 b w) (nI top) (t + 1) (3 * t + 0) (3 * t + 1) k5 (nI (b + 1)) = some F' ∧ F'.1 = F.1 ∧ F'.2.2 = F.2.2 ∧ (∀ a, a ≠ 76 → a ≠ 77 → F'.2.1 a = F.2.1 a) ∧ (∀ b', 1 ≤ b' → b' ≤ top → F'.2.1 76 b' = nI (fv D out beh 1 0 (b' + 1) b')) ∧ (∀ b' x, 1 ≤ b' → b' ≤ top → b' < x → x ≤ top + 1 → F'.2.1 77 (42 * b' + x) = nI (fv D out beh 1 1 x b')) := fun w hw => by
      obtain ⟨F', e1, e2, e3, e4, e5, e6⟩ := ih (b + 1) m (sA F2 76 b w) (by omega) (by omega) (by omega) (hH2.fr rfl (fun a ha => sA_row (by omega))) (fun b' q1 q2 => by
        by_cases c : b' = b
        · subst c; rw [sA_eq, hw]
        · rw [sA_ne c, g5 76 (by omega), sA_row (by omega)]; exact h76 b' q1 (by omega)) (fun b' x q1 q2 q3 q4 => by
        rw [sA_row (by omega)]
        by_cases c : b' = b
        · subst c; exact g7 x q3 q4
        · rw [g6 _ (by omega), sA_ne (by omega)]; exact h77 b' x q1 (by omega) q3 q4)
      exact ⟨F', e1, e2.trans g3, e3.trans g4, fun a q1 q2 => by rw [e4 a q1 q2, sA_row q1, g5 a q2, sA_row q2], e5, e6⟩
    unfold m_X2_fillOne_L45
    simp only [nmE]
    rw [if_neg (show ¬ nI top < nI b by rw [ltN (by omega) (by omega)]; omega), h65, nI_add, nI_add, lit32 242, if_neg (show ¬ nI 242 ≤ nI (s + top) by rw [leN (by omega) (by omega)]; omega), ckN (by omega) (by omega), clN (by omega), h12 b hb1 (by omega), first8 S F htop hele, Option.bind_some, show nI b * 42 + nI top + 1 = nI (42 * b + (top + 1)) by rw [lit32 42, pk_mul, nI_add, s1, Nat.mul_comm]; rfl, ckN (by omega) (by omega), clN (by omega), g1, Option.bind_some, ifleN (by omega) (by omega), ckN (by omega) (by omega), ckN (by omega) (by omega), clN (by omega), s1]
    by_cases c : top ≤ b
    · rw [if_pos c]
      exact hfin _ (by rw [htopv 1 0 (b + 1) (by omega) (by omega)])
    · rw [if_neg c]
      apply hfin
      rcases g2 with ⟨z1, z2⟩ | ⟨z1, z2⟩
      · omega
      · have hbl := bst_le (g := fun x => nuN (D x 0) (fE out beh x) (beh b)) (M := 1000000000) (39 - b) (b + 1) (fun y _ q => nuN_le (h6 y 0 (by omega) (by omega)) (fE_le h4 (h5 y (by omega))) hele)
        show v / 1000 = _
        rw [z2, lit32 1000, pk_div (nI_lt31 (by omega)) (by omega) (nI_lt31 (by omega)), fv_one (by omega), hEb, show 40 - (b + 1) = 39 - b by omega]
theorem one237_L {D : Nat → Nat → Nat} {out t s top : Nat} {beh : Nat → Nat} (S : St) : ∀ x n F v, x ≤ top → x + 1 ≤ n → FH D out beh t s top F → RV (fun x => nuN (D x 2) (fE out beh x) out) x v → (∀ y, x < y → y ≤ top → F.2.1 78 y = nI (fv D out beh 1 2 y 0)) →
    ∃ F', m_X2_fillOne_L237 n S F (nI top) (t + 1) (3 * t + 2) v (nI x) = some F' ∧ F'.1 = F.1 ∧ F'.2.2 = F.2.2 ∧ (∀ a, a ≠ 78 → F'.2.1 a = F.2.1 a) ∧ (∀ y, 1 ≤ y → y ≤ top → F'.2.1 78 y = nI (fv D out beh 1 2 y 0)) := by
  intro x
  induction x with
  | zero =>
    intro n F v hx hn hH hv h78
    obtain ⟨m, rfl⟩ : ∃ m, n = m + 1 := ⟨n - 1, by omega⟩
    refine ⟨F, ?_, rfl, rfl, fun _ _ => rfl, fun y h1 h2 => h78 y (by omega) h2⟩
    unfold m_X2_fillOne_L237
    rw [if_pos (show nI 0 ≤ 0 by decide)]
  | succ x ih =>
    intro n F v hx hn hH hv h78
    obtain ⟨m, rfl⟩ : ∃ m, n = m + 1 := ⟨n - 1, by omega⟩
    obtain ⟨h1, htop, h3, h4, h5, h6, h7, h63, h64, h65, h11, h12⟩ := id hH
    have hgl : ∀ y, y ≤ 40 → (fun x => nuN (D x 2) (fE out beh x) out) y ≤ 1000000000 := fun y hy => nuN_le (h6 y 2 hy (by omega)) (fE_le h4 (h5 y hy)) h4
    obtain ⟨r, r'⟩ := hv.step hgl (by omega)
    have hEx : fE out beh (x + 1) = beh (x + 1) := by unfold fE; rw [if_neg (by omega)]
    have hE0 : fE out beh 0 = out := rfl
    have hbl := bst_le (g := fun x => nuN (D x 2) (fE out beh x) out) (M := 1000000000) (39 - x) (x + 1) (fun y _ q => hgl y (by omega))
    have hval : mx v (nI (nuN (D (x + 1) 2) (fE out beh (x + 1)) out)) / 1000 = nI (fv D out beh 1 2 (x + 1) 0) := by
      rw [show mx v (nI (nuN (D (x + 1) 2) (fE out beh (x + 1)) out)) = _ from r', lit32 1000, pk_div (nI_lt31 (by omega)) (by omega) (nI_lt31 (by omega)), fv_one (by omega), hE0, show 40 - (x + 1) = 39 - x by omega]
    obtain ⟨F', g1, g2, g3, g4, g5⟩ := ih m (sA F 78 (x + 1) (nI (fv D out beh 1 2 (x + 1) 0))) _ (by omega) (by omega) (hH.fr rfl (fun a ha => sA_row (by omega))) r (fun y q1 q2 => by
      by_cases c : y = x + 1
      · subst c; exact sA_eq
      · rw [sA_ne c]; exact h78 y (by omega) q2)
    refine ⟨F', ?_, g2, g3, fun a ha => (g4 a ha).trans (sA_row ha), g5⟩
    unfold m_X2_fillOne_L237
    simp only [nmE]
    rw [ifle0N (by omega), if_neg (show ¬ x + 1 ≤ 0 by omega), h65, nI_add, nI_add, lit32 242, if_neg (show ¬ nI 242 ≤ nI (s + top) by rw [leN (by omega) (by omega)]; omega), ckN (by omega) (by omega), ckN (by omega) (by omega), clN (by omega), clN (by omega), h63, h12 (x + 1) (by omega) (by omega), show F.2.1 (61 + (3 * t + 2)) (x + 1) = nI (D (x + 1) 2) from h11 2 (x + 1) (by omega) (by omega) (by omega), nu8 (h6 _ _ (by omega) (by omega)) (h5 _ (by omega)) h4, ← hEx, ckN (by omega) (by omega), hval, pk_m1]
    exact g1
theorem fillOne8 {D : Nat → Nat → Nat} {out t s top n : Nat} {beh : Nat → Nat} (S : St) {F : St} (hH : FH D out beh t s top F) (hn : 100 ≤ n) :
    ∃ F', m_X2_fillOne n S F (nI top) (t + 1) = some F' ∧ F'.1 = F.1 ∧ F'.2.2 = F.2.2 ∧ (∀ a, (a < 76 ∨ 78 < a) → F'.2.1 a = F.2.1 a) ∧ (∀ b', 1 ≤ b' → b' ≤ top → F'.2.1 76 b' = nI (fv D out beh 1 0 (b' + 1) b')) ∧ (∀ b' x, 1 ≤ b' → b' < x → x ≤ top + 1 → b' ≤ top → F'.2.1 77 (42 * b' + x) = nI (fv D out beh 1 1 x b')) ∧ (∀ y, 1 ≤ y → y ≤ top → F'.2.1 78 y = nI (fv D out beh 1 2 y 0)) := by
  obtain ⟨h1, htop, h3, h4, h5, h6, h7, h63, h64, h65, h11, h12⟩ := id hH
  obtain ⟨F1, a1, a2, a3, a4, a5, a6⟩ := one45_L S (3 * t + 2) top 1 n F (by omega) (by omega) (by omega) hH (fun b' q1 q2 => absurd q2 (by omega)) (fun b' x q1 q2 => absurd q2 (by omega))
  have hH1 : FH D out beh t s top F1 := hH.fr a2 (fun a ha => a4 a (by omega) (by omega))
  obtain ⟨F', b1, b2, b3, b4, b5⟩ := one237_L S top n F1 (if 40 ≤ top then -1 else nI (1000 * out)) (by omega) (by omega) hH1 (RV.first (c := out) htop (fun x q1 q2 => by
    show nuN (D x 2) (fE out beh x) out = _
    unfold nuN
    rw [h7 x 2 q1 q2 (by omega)]
    omega) rfl) (fun y q1 q2 => absurd q1 (by omega))
  refine ⟨F', ?_, b2.trans a2, b3.trans a3, fun a ha => by rw [b4 a (by omega), a4 a (by omega) (by omega)], fun b' q1 q2 => by rw [b4 76 (by omega)]; exact a5 b' q1 q2, fun b' x q1 q2 q3 q4 => by rw [b4 77 (by omega)]; exact a6 b' x q1 q4 q2 q3, b5⟩
  unfold m_X2_fillOne
  rw [h64, m3, s1, s2, ckN (by omega) (by omega), ckN (by omega) (by omega), ckN (by omega) (by omega), clN (by omega), clN (by omega), clN (by omega), show m_X2_fillOne_L45 n S F (nI top) (t + 1) (3 * t) (3 * t + 1) (3 * t + 2) 1 = _ from a1, Option.bind_some, hH1.2.2.2.2.2.2.2.1, first8 S F1 htop h4, Option.bind_some, b1]
  rfl
