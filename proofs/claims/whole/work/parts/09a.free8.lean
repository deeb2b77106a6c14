/-! ===== layer B: two tries left, the choice, the starts ===== -/
theorem fv_two {D : Nat → Nat → Nat} {out : Nat} {beh : Nat → Nat} {f L b : Nat} (hL : L ≤ 40) : fv D out beh 2 f L b = (bst (fun x => nuN (D x f) (fv D out beh 1 f (x + 1) x) (fv D out beh 1 (f + 1) x b)) (40 - L) L).1 / 1000 := by
  rw [fv_go hL, ← bst_div]
  rfl
/-- the tables of one try left -/
def Tab1 (D : Nat → Nat → Nat) (out : Nat) (beh : Nat → Nat) (top : Nat) (F : St) : Prop := (∀ b, 1 ≤ b → b ≤ top → F.2.1 76 b = nI (fv D out beh 1 0 (b + 1) b)) ∧ (∀ b x, 1 ≤ b → b < x → x ≤ top + 1 → b ≤ top → F.2.1 77 (42 * b + x) = nI (fv D out beh 1 1 x b)) ∧ (∀ x, 1 ≤ x → x ≤ top → F.2.1 78 x = nI (fv D out beh 1 2 x 0))
theorem Tab1.fr {D : Nat → Nat → Nat} {out top : Nat} {beh : Nat → Nat} {F F' : St} (h : Tab1 D out beh top F) (e : ∀ a, a < 79 → F'.2.1 a = F.2.1 a) : Tab1 D out beh top F' := ⟨fun b h1 h2 => by rw [e 76 (by omega)]; exact h.1 b h1 h2, fun b x h1 h2 h3 h4 => by rw [e 77 (by omega)]; exact h.2.1 b x h1 h2 h3 h4, fun x h1 h2 => by rw [e 78 (by omega)]; exact h.2.2 x h1 h2⟩
theorem FH.vle {D : Nat → Nat → Nat} {out t s top : Nat} {beh : Nat → Nat} {F : St} (h : FH D out beh t s top F) : ∀ j f L b, f + j ≤ 3 → b ≤ 40 → fv D out beh j f L b ≤ 1000000 := fv_le h.2.2.2.2.2.1 h.2.2.2.1 h.2.2.2.2.1
theorem two66_L {D : Nat → Nat → Nat} {out t s top b : Nat} {beh : Nat → Nat} (hb1 : 1 ≤ b) (S : St) (k2 k4 : Nat) {F : St} (hH : FH D out beh t s top F) (h1 : Tab1 D out beh top F) : ∀ d x n v, x = b + d → x ≤ top → d + 1 ≤ n → RV (fun x => nuN (D x 0) (fv D out beh 1 0 (x + 1) x) (fv D out beh 1 1 x b)) x v →
    ∃ v', m_X2_fillTwo_L66 n S F (nI top) k2 (3 * t + 0) k4 (nI b) v (nI x) = some v' ∧ RV (fun x => nuN (D x 0) (fv D out beh 1 0 (x + 1) x) (fv D out beh 1 1 x b)) b v' := by
  obtain ⟨q1, htop, q3, q4, q5, q6, q7, h63, h64, h65, h11, h12⟩ := id hH
  intro d
  induction d with
  | zero =>
    intro x n v hx hxt hn hv
    obtain ⟨m, rfl⟩ : ∃ m, n = m + 1 := ⟨n - 1, by omega⟩
    refine ⟨v, ?_, by rw [show b = x by omega]; rw [show b = x by omega] at hv; exact hv⟩
    unfold m_X2_fillTwo_L66
    rw [if_pos (show nI x ≤ nI b by rw [leN (by omega) (by omega)]; omega)]
  | succ d ih =>
    intro x n v hx hxt hn hv
    obtain ⟨m, rfl⟩ : ∃ m, n = m + 1 := ⟨n - 1, by omega⟩
    obtain ⟨q, rfl⟩ : ∃ q, x = q + 1 := ⟨x - 1, by omega⟩
    have hgl : ∀ y, y ≤ 40 → (fun x => nuN (D x 0) (fv D out beh 1 0 (x + 1) x) (fv D out beh 1 1 x b)) y ≤ 1000000000 := fun y hy => nuN_le (q6 y 0 hy (by omega)) (hH.vle _ _ _ _ (by omega) hy) (hH.vle _ _ _ _ (by omega) (by omega))
    obtain ⟨r, r'⟩ := hv.step hgl (by omega)
    obtain ⟨v', g1, g2⟩ := ih q m _ (by omega) (by omega) (by omega) r
    refine ⟨v', ?_, g2⟩
    unfold m_X2_fillTwo_L66
    simp only [nmE]
    rw [if_neg (show ¬ nI (q + 1) ≤ nI b by rw [leN (by omega) (by omega)]; omega), show nI b * 42 + nI (q + 1) = nI (42 * b + (q + 1)) by rw [lit32 42, pk_mul, nI_add, Nat.mul_comm], ckN (by omega) (by omega), ckN (by omega) (by omega), ckN (by omega) (by omega), clN (by omega), clN (by omega), h1.2.1 b (q + 1) hb1 (by omega) (by omega) (by omega), h1.1 (q + 1) (by omega) (by omega), show F.2.1 (61 + (3 * t + 0)) (q + 1) = nI (D (q + 1) 0) from h11 0 (q + 1) (by omega) (by omega) (by omega), nu8 (q6 _ _ (by omega) (by omega)) (hH.vle _ _ _ _ (by omega) (by omega)) (hH.vle _ _ _ _ (by omega) (by omega)), pk_m1]
    exact g1
theorem two30_L {D : Nat → Nat → Nat} {out t s top : Nat} {beh : Nat → Nat} (S : St) (k4 : Nat) : ∀ d b n F, b + d = top + 1 → 1 ≤ b → d + 50 ≤ n → FH D out beh t s top F → Tab1 D out beh top F → (∀ b', 1 ≤ b' → b' < b → F.2.1 79 b' = nI (fv D out beh 2 0 (b' + 1) b')) →
    ∃ F', m_X2_fillTwo_L30 n S F (nI top) (t + 1) (3 * t + 0) k4 (nI b) = some F' ∧ F'.1 = F.1 ∧ F'.2.2 = F.2.2 ∧ (∀ a, a ≠ 79 → F'.2.1 a = F.2.1 a) ∧ (∀ b', 1 ≤ b' → b' ≤ top → F'.2.1 79 b' = nI (fv D out beh 2 0 (b' + 1) b')) := by
  intro d
  induction d with
  | zero =>
    intro b n F hb hb1 hn hH h1 h79
    obtain ⟨m, rfl⟩ : ∃ m, n = m + 1 := ⟨n - 1, by omega⟩
    have htop := hH.2.1
    refine ⟨F, ?_, rfl, rfl, fun _ _ => rfl, fun b' q1 q2 => h79 b' q1 (by omega)⟩
    unfold m_X2_fillTwo_L30
    rw [if_pos (show nI top < nI b by rw [ltN (by omega) (by omega)]; omega)]
  | succ d ih =>
    intro b n F hb hb1 hn hH h1 h79
    obtain ⟨m, rfl⟩ : ∃ m, n = m + 1 := ⟨n - 1, by omega⟩
    obtain ⟨q1, htop, q3, q4, q5, q6, q7, h63, h64, h65, h11, h12⟩ := id hH
    have hEb : fE out beh b = beh b := by unfold fE; rw [if_neg (by omega)]
    have hele : beh b ≤ 1000000 := q5 b (by omega)
    have htopv : ∀ j f L, f + j ≤ 3 → top < L → fv D out beh j f L b = beh b := fun j f L z1 z2 => by rw [fv_top q7 j f L b z1 z2, hEb]
    obtain ⟨v, g1, g2⟩ := two66_L (b := b) hb1 S (t + 1) k4 hH h1 (top - b) top m (if 40 ≤ top then -1 else nI (1000 * beh b)) (by omega) (by omega) (by omega) (RV.first (c := beh b) htop (fun x z1 z2 => by
      show nuN (D x 0) (fv D out beh 1 0 (x + 1) x) (fv D out beh 1 1 x b) = _
      unfold nuN
      rw [q7 x 0 z1 z2 (by omega), htopv 1 1 x (by omega) z1]
      omega) rfl)
    have hfin : ∀ w, w = nI (fv D out beh 2 0 (b + 1) b) → ∃ F', m_X2_fillTwo_L30 m S (sA F 79 b w) (nI top) (t + 1) (3 * t + 0) k4 (nI (b + 1)) = some F' ∧ F'.1 = F.1 ∧ F'.2.2 = F.2.2 ∧ (∀ a, a ≠ 79 → F'.2.1 a = F.2.1 a) ∧ (∀ b', 1 ≤ b' → b' ≤ top → F'.2.1 79 b' = nI (fv D out beh 2 0 (b' + 1) b')) := fun w hw => by
      obtain ⟨F', e1, e2, e3, e4, e5⟩ := ih (b + 1) m (sA F 79 b w) (by omega) (by omega) (by omega) (hH.fr rfl (fun a ha => sA_row (by omega))) (h1.fr (fun a ha => sA_row (by omega))) (fun b' z1 z2 => by
        by_cases c : b' = b
        · subst c; rw [sA_eq, hw]
        · rw [sA_ne c]; exact h79 b' z1 (by omega))
      exact ⟨F', e1, e2, e3, fun a z1 => by rw [e4 a z1, sA_row z1], e5⟩
    unfold m_X2_fillTwo_L30
    simp only [nmE]
    rw [if_neg (show ¬ nI top < nI b by rw [ltN (by omega) (by omega)]; omega), h65, nI_add, nI_add, lit32 242, if_neg (show ¬ nI 242 ≤ nI (s + top) by rw [leN (by omega) (by omega)]; omega), ckN (by omega) (by omega), clN (by omega), h12 b hb1 (by omega), first8 S F htop hele, Option.bind_some, g1, Option.bind_some, ifleN (by omega) (by omega), ckN (by omega) (by omega), ckN (by omega) (by omega), ckN (by omega) (by omega), clN (by omega), s1]
    by_cases c : top ≤ b
    · rw [if_pos c]
      exact hfin _ (by rw [htopv 2 0 (b + 1) (by omega) (by omega)])
    · rw [if_neg c]
      apply hfin
      rcases g2 with ⟨z1, z2⟩ | ⟨z1, z2⟩
      · omega
      · have hbl := bst_le (g := fun x => nuN (D x 0) (fv D out beh 1 0 (x + 1) x) (fv D out beh 1 1 x b)) (M := 1000000000) (39 - b) (b + 1) (fun y _ z => nuN_le (q6 y 0 (by omega) (by omega)) (hH.vle _ _ _ _ (by omega) (by omega)) (hH.vle _ _ _ _ (by omega) (by omega)))
        rw [z2, lit32 1000, pk_div (nI_lt31 (by omega)) (by omega) (nI_lt31 (by omega)), fv_two (by omega), show 40 - (b + 1) = 39 - b by omega]
theorem two173_L {D : Nat → Nat → Nat} {out t s top : Nat} {beh : Nat → Nat} (S : St) : ∀ x n F v, x ≤ top → x + 1 ≤ n → FH D out beh t s top F → Tab1 D out beh top F → RV (fun x => nuN (D x 1) (fv D out beh 1 1 (x + 1) x) (fv D out beh 1 2 x 0)) x v → (∀ y, x < y → y ≤ top → F.2.1 80 y = nI (fv D out beh 2 1 y 0)) →
    ∃ F', m_X2_fillTwo_L173 n S F (3 * t + 1) v (nI x) = some F' ∧ F'.1 = F.1 ∧ F'.2.2 = F.2.2 ∧ (∀ a, a ≠ 80 → F'.2.1 a = F.2.1 a) ∧ (∀ y, 1 ≤ y → y ≤ top → F'.2.1 80 y = nI (fv D out beh 2 1 y 0)) := by
  intro x
  induction x with
  | zero =>
    intro n F v hx hn hH h1 hv h80
    obtain ⟨m, rfl⟩ : ∃ m, n = m + 1 := ⟨n - 1, by omega⟩
    refine ⟨F, ?_, rfl, rfl, fun _ _ => rfl, fun y q1 q2 => h80 y (by omega) q2⟩
    unfold m_X2_fillTwo_L173
    rw [if_pos (show nI 0 ≤ 0 by decide)]
  | succ x ih =>
    intro n F v hx hn hH h1 hv h80
    obtain ⟨m, rfl⟩ : ∃ m, n = m + 1 := ⟨n - 1, by omega⟩
    obtain ⟨q1, htop, q3, q4, q5, q6, q7, h63, h64, h65, h11, h12⟩ := id hH
    have hgl : ∀ y, y ≤ 40 → (fun x => nuN (D x 1) (fv D out beh 1 1 (x + 1) x) (fv D out beh 1 2 x 0)) y ≤ 1000000000 := fun y hy => nuN_le (q6 y 1 hy (by omega)) (hH.vle _ _ _ _ (by omega) hy) (hH.vle _ _ _ _ (by omega) (by omega))
    obtain ⟨r, r'⟩ := hv.step hgl (by omega)
    have hbl := bst_le (g := fun x => nuN (D x 1) (fv D out beh 1 1 (x + 1) x) (fv D out beh 1 2 x 0)) (M := 1000000000) (39 - x) (x + 1) (fun y _ z => hgl y (by omega))
    have hval : mx v (nI (nuN (D (x + 1) 1) (fv D out beh 1 1 (x + 1 + 1) (x + 1)) (fv D out beh 1 2 (x + 1) 0))) / 1000 = nI (fv D out beh 2 1 (x + 1) 0) := by
      rw [show mx v (nI (nuN (D (x + 1) 1) (fv D out beh 1 1 (x + 1 + 1) (x + 1)) (fv D out beh 1 2 (x + 1) 0))) = _ from r', lit32 1000, pk_div (nI_lt31 (by omega)) (by omega) (nI_lt31 (by omega)), fv_two (by omega), show 40 - (x + 1) = 39 - x by omega]
    obtain ⟨F', g1, g2, g3, g4, g5⟩ := ih m (sA F 80 (x + 1) (nI (fv D out beh 2 1 (x + 1) 0))) _ (by omega) (by omega) (hH.fr rfl (fun a ha => sA_row (by omega))) (h1.fr (fun a ha => sA_row (by omega))) r (fun y z1 z2 => by
      by_cases c : y = x + 1
      · subst c; exact sA_eq
      · rw [sA_ne c]; exact h80 y (by omega) z2)
    refine ⟨F', ?_, g2, g3, fun a ha => (g4 a ha).trans (sA_row ha), g5⟩
    unfold m_X2_fillTwo_L173
    simp only [nmE]
    rw [ifle0N (by omega), if_neg (show ¬ x + 1 ≤ 0 by omega), show nI (x + 1) * 42 + nI (x + 1) + 1 = nI (42 * (x + 1) + (x + 1 + 1)) by rw [lit32 42, pk_mul, nI_add, s1, Nat.mul_comm]; rfl, ckN (by omega) (by omega), ckN (by omega) (by omega), ckN (by omega) (by omega), clN (by omega), clN (by omega), h1.2.2 (x + 1) (by omega) (by omega), h1.2.1 (x + 1) (x + 1 + 1) (by omega) (by omega) (by omega) (by omega), show F.2.1 (61 + (3 * t + 1)) (x + 1) = nI (D (x + 1) 1) from h11 1 (x + 1) (by omega) (by omega) (by omega), nu8 (q6 _ _ (by omega) (by omega)) (hH.vle _ _ _ _ (by omega) (by omega)) (hH.vle _ _ _ _ (by omega) (by omega)), ckN (by omega) (by omega), hval, pk_m1]
    exact g1
theorem fillTwo8 {D : Nat → Nat → Nat} {out t s top n : Nat} {beh : Nat → Nat} (S : St) {F : St} (hH : FH D out beh t s top F) (h1 : Tab1 D out beh top F) (hn : 100 ≤ n) :
    ∃ F', m_X2_fillTwo n S F (nI top) (t + 1) = some F' ∧ F'.1 = F.1 ∧ F'.2.2 = F.2.2 ∧ (∀ a, a < 79 → F'.2.1 a = F.2.1 a) ∧ (∀ b', 1 ≤ b' → b' ≤ top → F'.2.1 79 b' = nI (fv D out beh 2 0 (b' + 1) b')) ∧ (∀ y, 1 ≤ y → y ≤ top → F'.2.1 80 y = nI (fv D out beh 2 1 y 0)) := by
  obtain ⟨q1, htop, q3, q4, q5, q6, q7, h63, h64, h65, h11, h12⟩ := id hH
  obtain ⟨F1, a1, a2, a3, a4, a5⟩ := two30_L S (3 * t + 1) top 1 n F (by omega) (by omega) (by omega) hH h1 (fun b' z1 z2 => absurd z2 (by omega))
  have hH1 : FH D out beh t s top F1 := hH.fr a2 (fun a ha => a4 a (by omega))
  obtain ⟨F', b1, b2, b3, b4, b5⟩ := two173_L S top n F1 (if 40 ≤ top then -1 else nI (1000 * out)) (by omega) (by omega) hH1 (h1.fr (fun a ha => a4 a (by omega))) (RV.first (c := out) htop (fun x z1 z2 => by
    show nuN (D x 1) (fv D out beh 1 1 (x + 1) x) (fv D out beh 1 2 x 0) = _
    unfold nuN
    rw [q7 x 1 z1 z2 (by omega), fv_top q7 1 2 x 0 (by omega) z1, show fE out beh 0 = out from rfl]
    omega) rfl) (fun y z1 z2 => absurd z1 (by omega))
  refine ⟨F', ?_, b2.trans a2, b3.trans a3, fun a ha => by rw [b4 a (by omega), a4 a (by omega)], fun b' z1 z2 => by rw [b4 79 (by omega)]; exact a5 b' z1 z2, b5⟩
  unfold m_X2_fillTwo
  rw [h64, m3, s1, ckN (by omega) (by omega), ckN (by omega) (by omega), clN (by omega), clN (by omega), show m_X2_fillTwo_L30 n S F (nI top) (t + 1) (3 * t) (3 * t + 1) 1 = _ from a1, Option.bind_some, hH1.2.2.2.2.2.2.2.1, first8 S F1 htop q4, Option.bind_some, b1]
  rfl
/-! the choice -/
/-- what may be chosen for -/
def PC (j f b : Nat) : Prop := (j = 3 ∧ f = 0 ∧ b = 0) ∨ (j = 2 ∧ ((f = 0 ∧ 1 ≤ b) ∨ (f = 1 ∧ b = 0))) ∨ (j = 1 ∧ f ≤ 2 ∧ (f = 2 → b = 0))
def TabsF (D : Nat → Nat → Nat) (out : Nat) (beh : Nat → Nat) (t s top : Nat) (F : St) : Prop := FH D out beh t s top F ∧ Tab1 D out beh top F ∧ (∀ b', 1 ≤ b' → b' ≤ top → F.2.1 79 b' = nI (fv D out beh 2 0 (b' + 1) b')) ∧ (∀ y, 1 ≤ y → y ≤ top → F.2.1 80 y = nI (fv D out beh 2 1 y 0))
theorem TabsF.load {D : Nat → Nat → Nat} {out t s top : Nat} {beh : Nat → Nat} {F : St} (h : TabsF D out beh t s top F) (v : Int32) : TabsF D out beh t s top (sI F 62 v) := by
  obtain ⟨⟨q1, htop, q3, q4, q5, q6, q7, h63, h64, h65, h11, h12⟩, h1, h2, h3⟩ := h
  exact ⟨⟨q1, htop, q3, q4, q5, q6, q7, (sI_ne (by omega)).trans h63, (sI_ne (by omega)).trans h64, (sI_ne (by omega)).trans h65, h11, h12⟩, h1, h2, h3⟩
theorem endOf8 {D : Nat → Nat → Nat} {out t s top x : Nat} {beh : Nat → Nat} (S : St) {F : St} (hH : FH D out beh t s top F) (hx : x ≤ 40) (h : F.2.1 (72 + (t + 1)) (s + x) = nI (beh x)) : m_X2_endOf S F (nI x) = some (nI (beh x)) := by
  obtain ⟨q1, htop, q3, q4, q5, q6, q7, h63, h64, h65, h11, h12⟩ := id hH
  unfold m_X2_endOf
  rw [h65, h64, nI_add, if_neg (nI_pos (by omega)), lit32 242, ifltN (by omega) (by omega), if_pos (show s + x < 242 by omega), s1, ckN (by omega) (by omega), ckN (by omega) (by omega), clN (by omega), clN (by omega), h]
theorem valueAt8 {D : Nat → Nat → Nat} {out t s top j f b x : Nat} {beh : Nat → Nat} (S : St) {F : St} (h : TabsF D out beh t s top F) (hpc : PC (j + 1) f b) (hx1 : 1 ≤ x) (hx : x ≤ top) (hb : b < x) : m_X2_valueAt S F (nI (j + 1)) (nI f) (nI b) (nI x) = some (nI (fg D out beh j f b x)) := by
  obtain ⟨hH, h1, h2, h3⟩ := h
  obtain ⟨q1, htop, q3, q4, q5, q6, q7, h63, h64, h65, h11, h12⟩ := id hH
  have hf : f ≤ 2 := by rcases hpc with z | z | z <;> omega
  have hj : j ≤ 2 := by rcases hpc with z | z | z <;> omega
  unfold m_X2_valueAt
  rw [if_neg (nI_pos (by omega)), lit32 3, if_neg (show ¬ nI 3 ≤ nI f by rw [leN (by omega) (by omega)]; omega), if_neg (nI_pos (by omega)), lit32 40, if_pos (show nI b ≤ nI 40 by rw [leN (by omega) (by omega)]; omega), h64, ← lit32 3, m3, nI_add, ckN (by omega) (by omega), ckN (by omega) (by omega), nmE, clN (by omega), clN (by omega), h11 f x (by omega) hx1 (by omega), lit32 1, ifltN (by omega) (by omega), lit32 3, ifltN (by omega) (by omega), if0N (by omega), if0N (by omega)]
  have hfg : ∀ A B, A = fv D out beh j f (x + 1) x → B = fv D out beh j (f + 1) x b → m_X8_mix S (nI (D x f)) (nI A) (nI B) = some (nI (fg D out beh j f b x)) := fun A B hA hB => by
    have hfj : f + 1 + j ≤ 3 := by rcases hpc with z | z | z <;> omega
    rw [mix8 S (q6 x f (by omega) (by omega)) (by rw [hA]; exact hH.vle _ _ _ _ (by omega) (by omega)) (by rw [hB]; exact hH.vle _ _ _ _ hfj (by omega)), hA, hB]
    rfl
  by_cases c1 : 1 < j + 1
  · rw [if_pos c1]
    by_cases c3 : j + 1 < 3
    · rw [if_pos c3]
      have hj1 : j = 1 := by omega
      subst hj1
      have hp : (f = 0 ∧ 1 ≤ b) ∨ (f = 1 ∧ b = 0) := by rcases hpc with z | z | z <;> omega
      by_cases cf : f = 0
      · rw [if_pos cf]
        have hb1 : 1 ≤ b := by omega
        rw [ckN (by omega) (by omega), show nI b * 42 + nI x = nI (42 * b + x) by rw [lit32 42, pk_mul, nI_add, Nat.mul_comm], ckN (by omega) (by omega), clN (by omega), h1.1 x hx1 hx, h1.2.1 b x hb1 hb (by omega) (by omega), hfg _ _ (by rw [cf]) (by rw [cf]), Option.bind_some]
      · rw [if_neg cf]
        have hf1 : f = 1 := by omega
        have hb0 : b = 0 := by omega
        rw [show nI x * 42 + nI x + nI 1 = nI (42 * x + (x + 1)) by rw [lit32 42, pk_mul, nI_add, nI_add, Nat.mul_comm]; rfl, ckN (by omega) (by omega), ckN (by omega) (by omega), clN (by omega), h1.2.1 x (x + 1) hx1 (by omega) (by omega) hx, h1.2.2 x hx1 hx, hfg _ _ (by rw [hf1]) (by rw [hf1, hb0]), Option.bind_some]
    · rw [if_neg c3]
      have hj2 : j = 2 := by omega
      subst hj2
      have hp : f = 0 ∧ b = 0 := by rcases hpc with z | z | z <;> omega
      rw [ckN (by omega) (by omega), ckN (by omega) (by omega), h2 x hx1 hx, h3 x hx1 hx, hfg _ _ (by rw [hp.1]) (by rw [hp.1, hp.2]), Option.bind_some]
  · rw [if_neg c1]
    have hj0 : j = 0 := by omega
    subst hj0
    have hEx : fE out beh x = beh x := by unfold fE; rw [if_neg (by omega)]
    rw [endOf8 S hH (by omega) (h12 x hx1 hx), Option.bind_some]
    have hq : ((if b = 0 then (some (F.1 63)) else ((m_X2_endOf S F (nI b)).bind (fun r31 => some r31)) : Option (Int32))) = some (nI (fE out beh b)) := by
      unfold fE
      by_cases cb : b = 0
      · rw [if_pos cb, if_pos cb, h63]
      · rw [if_neg cb, if_neg cb, endOf8 S hH (by omega) (h12 b (by omega) (by omega)), Option.bind_some]
    rw [hq, Option.bind_some, hfg (beh x) (fE out beh b) hEx.symm rfl, Option.bind_some]
theorem choose_L {D : Nat → Nat → Nat} {out t s top j f b L : Nat} {beh : Nat → Nat} (S : St) {F : St} (h : TabsF D out beh t s top F) (hpc : PC (j + 1) f b) (hL1 : 1 ≤ L) (hL : L ≤ 40) (hb : b < L) : ∀ d x n v m7, x + 1 = L + d → x ≤ top → d + 1 ≤ n → ((x = 40 ∧ v = -1) ∨ (x < 40 ∧ v = nI (bst (fg D out beh j f b) (39 - x) (x + 1)).1 ∧ m7 = nI (bst (fg D out beh j f b) (39 - x) (x + 1)).2)) →
    m_X2_choose_L68 n S (sI F 62 m7) (nI (j + 1)) (nI f) (nI b) (nI L) v (nI x) = some (if x + 1 = L ∧ x = 40 then (sI F 62 m7, v) else (sI F 62 (nI (bst (fg D out beh j f b) (40 - L) L).2), nI (bst (fg D out beh j f b) (40 - L) L).1)) := by
  have hH := h.1
  have htop := hH.2.1
  have hfj : f + 1 + j ≤ 3 := by rcases hpc with z | z | z <;> omega
  have hgl : ∀ y, y ≤ 40 → fg D out beh j f b y ≤ 1000000 := fun y hy => mixN_le (hH.2.2.2.2.2.1 y f hy (by omega)) (hH.vle _ _ _ _ (by omega) hy) (hH.vle _ _ _ _ hfj (by omega))
  intro d
  induction d with
  | zero =>
    intro x n v m7 hx hxt hn hv
    obtain ⟨m, rfl⟩ : ∃ m, n = m + 1 := ⟨n - 1, by omega⟩
    unfold m_X2_choose_L68
    rw [if_pos (show nI x < nI L by rw [ltN (by omega) (by omega)]; omega)]
    rcases hv with ⟨z1, z2⟩ | ⟨z1, z2, z3⟩
    · omega
    · rw [if_neg (by omega), z2, z3, show x + 1 = L by omega, show 39 - x = 40 - L by omega]
  | succ d ih =>
    intro x n v m7 hx hxt hn hv
    obtain ⟨m, rfl⟩ : ∃ m, n = m + 1 := ⟨n - 1, by omega⟩
    obtain ⟨q, rfl⟩ : ∃ q, x = q + 1 := ⟨x - 1, by omega⟩
    have hg := hgl (q + 1) (by omega)
    have hstep : m_X2_choose_L68 (m + 1) S (sI F 62 m7) (nI (j + 1)) (nI f) (nI b) (nI L) v (nI (q + 1)) = if nI (fg D out beh j f b (q + 1)) < v then m_X2_choose_L68 m S (sI F 62 m7) (nI (j + 1)) (nI f) (nI b) (nI L) v (nI q) else m_X2_choose_L68 m S (sI F 62 (nI (q + 1))) (nI (j + 1)) (nI f) (nI b) (nI L) (nI (fg D out beh j f b (q + 1))) (nI q) := by
      conv => lhs; unfold m_X2_choose_L68
      rw [if_neg (show ¬ nI (q + 1) < nI L by rw [ltN (by omega) (by omega)]; omega), if_neg (show ¬ nI (q + 1) < 1 by rw [lit32 1, ltN (by omega) (by omega)]; omega), valueAt8 S (h.load m7) hpc (by omega) hxt (by omega), Option.bind_some, nmE, sI_sI, pk_m1]
    rw [hstep, if_neg (show ¬ (q + 1 + 1 = L ∧ q + 1 = 40) by omega)]
    have hnot : ¬ (q + 1 = L ∧ q = 40) := by omega
    rcases hv with ⟨z1, z2⟩ | ⟨z1, z2, z3⟩
    · rw [if_neg (show ¬ nI (fg D out beh j f b (q + 1)) < v by
        rw [z2, lt32, tiN (by omega)]
        have : Int32.toInt (-1) = -1 := rfl
        omega), ih q m _ _ (by omega) (by omega) (by omega) (Or.inr ⟨by omega, by rw [show 39 - q = 0 by omega]; rfl, by rw [show 39 - q = 0 by omega]; rfl⟩), if_neg hnot]
    · have hle := bst_le (g := fg D out beh j f b) (M := 1000000) (39 - (q + 1)) (q + 1 + 1) (fun y _ z => hgl y (by omega))
      have hb' : bst (fg D out beh j f b) (39 - q) (q + 1) = if fg D out beh j f b (q + 1) < (bst (fg D out beh j f b) (39 - (q + 1)) (q + 1 + 1)).1 then bst (fg D out beh j f b) (39 - (q + 1)) (q + 1 + 1) else (fg D out beh j f b (q + 1), q + 1) := by
        rw [show 39 - q = (39 - (q + 1)) + 1 by omega]; rfl
      by_cases c : fg D out beh j f b (q + 1) < (bst (fg D out beh j f b) (39 - (q + 1)) (q + 1 + 1)).1
      · rw [if_pos c] at hb'
        rw [if_pos (show nI (fg D out beh j f b (q + 1)) < v by rw [z2, ltN (by omega) (by omega)]; exact c), ih q m _ _ (by omega) (by omega) (by omega) (Or.inr ⟨by omega, by rw [hb']; exact z2, by rw [hb']; exact z3⟩), if_neg hnot]
      · rw [if_neg c] at hb'
        rw [if_neg (show ¬ nI (fg D out beh j f b (q + 1)) < v by rw [z2, ltN (by omega) (by omega)]; exact c), ih q m _ _ (by omega) (by omega) (by omega) (Or.inr ⟨by omega, by rw [hb'], by rw [hb']⟩), if_neg hnot]
theorem choose8 {D : Nat → Nat → Nat} {out t s top j f b L n : Nat} {beh : Nat → Nat} (S : St) {F : St} (h : TabsF D out beh t s top F) (h70 : F.2.1 70 t = nI top) (hpc : PC (j + 1) f b) (hL1 : 1 ≤ L) (hL : L ≤ 40) (hb : b < L) (hn : 50 ≤ n) (hbe : b ≠ 0 → F.2.1 (72 + (t + 1)) (s + b) = nI (beh b)) :
    m_X2_choose n S F (nI (j + 1)) (nI f) (nI b) (nI L) = some (nI (bst (fg D out beh j f b) (40 - L) L).1, sI F 62 (nI (bst (fg D out beh j f b) (40 - L) L).2)) := by
  have hH := h.1
  obtain ⟨q1, htop, q3, q4, q5, q6, q7, h63, h64, h65, h11, h12⟩ := id hH
  have hfj : f + 1 + j ≤ 3 := by rcases hpc with z | z | z <;> omega
  have hq : ((if nI b = 0 then (some (F.1 63)) else ((m_X2_endOf S F (nI b)).bind (fun r20 => some r20)) : Option (Int32))) = some (nI (fE out beh b)) := by
    rw [if0N (by omega)]
    unfold fE
    by_cases cb : b = 0
    · rw [if_pos cb, if_pos cb, h63]
    · rw [if_neg cb, if_neg cb, endOf8 S hH (by omega) (hbe cb), Option.bind_some]
  have hconst : ∀ y, top < y → y ≤ 40 → fg D out beh j f b y = fE out beh b := fun y z1 z2 => by
    unfold fg mixN
    rw [q7 y f z1 z2 (by omega), fv_top q7 j (f + 1) y b (by omega) z1]
    omega
  unfold m_X2_choose
  rw [h64, ckN (by omega) (by omega), clN (by omega), h70, hq, Option.bind_some, nmE, s1, mx_nat (by omega) (by omega), ifltN (by omega) (by omega), lit32 40, ifleN (by omega) (by omega)]
  by_cases c1 : top < L
  · rw [if_pos c1, Option.bind_some]
    have hb2 : bst (fg D out beh j f b) (40 - L) L = (fE out beh b, L) := bst_const _ _ (fun y z1 z2 => hconst y (by omega) (by omega))
    obtain ⟨m, rfl⟩ : ∃ m, n = m + 1 := ⟨n - 1, by omega⟩
    have : m_X2_choose_L68 (m + 1) S (sI F 62 (nI (max L (top + 1)))) (nI (j + 1)) (nI f) (nI b) (nI L) (nI (fE out beh b)) (nI top) = some (sI F 62 (nI (max L (top + 1))), nI (fE out beh b)) := by
      unfold m_X2_choose_L68
      rw [if_pos (show nI top < nI L by rw [ltN (by omega) (by omega)]; omega)]
    rw [this, Option.bind_some, hb2, show max L (top + 1) = L by omega]
  · rw [if_neg c1]
    by_cases c2 : 40 ≤ top
    · rw [if_pos c2, Option.bind_some, choose_L S h hpc hL1 hL hb (41 - L) top n (-1) _ (by omega) (by omega) (by omega) (Or.inl ⟨by omega, rfl⟩), Option.bind_some, if_neg (by omega)]
    · rw [if_neg c2, Option.bind_some]
      have hb2 : bst (fg D out beh j f b) (39 - top) (top + 1) = (fE out beh b, top + 1) := bst_const _ _ (fun y z1 z2 => hconst y (by omega) (by omega))
      rw [show max L (top + 1) = top + 1 by omega, choose_L S h hpc hL1 hL hb (top + 1 - L) top n _ _ (by omega) (by omega) (by omega) (Or.inr ⟨by omega, by rw [hb2], by rw [hb2]⟩), Option.bind_some, if_neg (by omega)]
