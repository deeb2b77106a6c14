/-! ===== layer B: the duel; the class's tables ===== -/
theorem mx_i (u v : Int32) : (mx u v).toInt = max u.toInt v.toInt := by
  unfold mx
  by_cases c : u < v
  · rw [if_pos c]; rw [lt32] at c; omega
  · rw [if_neg c]; rw [lt32] at c; omega
theorem mn_i (u v : Int32) : (mn u v).toInt = min u.toInt v.toInt := by
  unfold mn
  by_cases c : v < u
  · rw [if_pos c]; rw [lt32] at c; omega
  · rw [if_neg c]; rw [lt32] at c; omega
theorem sA_off {S : St} {a i x y : Nat} {v : Int32} (h : y ≠ i) : (sA S a i v).2.1 x y = S.2.1 x y := by
  rw [sA_21, if_neg h]
  by_cases c : x = a
  · rw [if_pos c, c]
  · rw [if_neg c]
theorem eq_nI {u : Int32} {n : Nat} (hn : n < 2147483648) (h : u.toInt = (n : Int)) : u = nI n := by
  apply Int32.toInt_inj.mp
  rw [h, tiN hn]
theorem ckbN {α : Type} {v : Nat} {x : Option α} (h : v ≤ 1) : ckb (nI v) x = x := by
  rcases (by omega : v = 0 ∨ v = 1) with rfl | rfl
  · rfl
  · rfl
def tot (s x : Nat) : Nat := if x = 0 then 0 else s + x
def uA (D : DD) (x : Nat) : Nat := if x = 0 then D.2.2 2 else x
def uB (D : DD) (x : Nat) : Nat := if x = 0 then D.2.2 3 else x
/-- what is read of the meet -/
def PT8 (D : DD) (P : St) : Prop := P.1 70 = nI (D.2.2 4) ∧ P.1 71 = nI (D.2.2 5) ∧ P.1 72 = nI (D.2.2 6) ∧ P.1 73 = nI (D.2.2 7) ∧ P.1 74 = nI (D.2.2 0) ∧ P.1 75 = nI (D.2.2 1) ∧ P.1 76 = nI (tot (D.2.2 0) (D.2.2 2)) ∧ P.1 77 = nI (tot (D.2.2 1) (D.2.2 3)) ∧ ∀ x, 1 ≤ x → x ≤ 40 → P.2.1 82 x = nI (D.1 x) ∧ P.2.1 83 x = nI (D.2.1 x)
theorem PT8.fr {D : DD} {P P' : St} (h : PT8 D P) (e1 : P'.1 = P.1) (e2 : ∀ a, a < 84 → P'.2.1 a = P.2.1 a) : PT8 D P' := by
  obtain ⟨h1, h2, h3, h4, h5, h6, h7, h8, h9⟩ := h
  unfold PT8
  rw [e1, e2 82 (by omega), e2 83 (by omega)]
  exact ⟨h1, h2, h3, h4, h5, h6, h7, h8, h9⟩
def TabC (D : DD) (P : St) (x y : Nat) : Prop := P.2.1 84 (41 * x + y) = nI (lB D (uA D x) y) ∧ P.2.1 85 (41 * x + y) = nI (cB D 1 (uA D x) y) ∧ P.2.1 86 (41 * x + y) = nI (lA D (uB D x) y) ∧ P.2.1 87 (41 * x + y) = nI (cA D 1 (uB D x) y)
def PI (D : DD) (P : St) : Prop := PT8 D P ∧ ∀ x y, x ≤ 40 → 1 ≤ y → y ≤ 40 → TabC D P x y
theorem PI.fr {D : DD} {P P' : St} (h : PI D P) (e1 : P'.1 = P.1) (e2 : ∀ a, a < 88 → P'.2.1 a = P.2.1 a) : PI D P' := by
  refine ⟨h.1.fr e1 (fun a ha => e2 a (by omega)), fun x y h1 h2 h3 => ?_⟩
  have := h.2 x y h1 h2 h3
  unfold TabC
  rw [e2 84 (by omega), e2 85 (by omega), e2 86 (by omega), e2 87 (by omega)]
  exact this
theorem out8d (S : St) {D : DD} {P : St} (hw : DW D) (h70 : P.1 70 = nI (D.2.2 4)) {x y : Nat} (hx : x ≤ 40) (hy : y ≤ 40) : m_X1_outcome S P (nI (tot (D.2.2 0) x)) (nI (tot (D.2.2 1) y)) = some (nI (eN D x y)) := by
  have s0 := hw.2.1
  have s1' := hw.2.2.1
  have h4 := hw.2.2.2.2.2.2.2.1
  have hx0 : tot (D.2.2 0) x ≤ 120 := by unfold tot; split <;> omega
  have hy0 : tot (D.2.2 1) y ≤ 120 := by unfold tot; split <;> omega
  unfold m_X1_outcome eN
  rw [h70, if0N (by omega), ifeqN (by omega) (by omega), if0N (by omega), ifleN (by omega) (by omega)]
  by_cases c : x = 0
  · rw [if_pos (show tot (D.2.2 0) x = 0 by unfold tot; rw [if_pos c]), if_pos c]; rfl
  · have ex : tot (D.2.2 0) x = D.2.2 0 + x := by unfold tot; rw [if_neg c]
    rw [if_neg (by omega), if_neg c, ex]
    by_cases c2 : y = 0
    · have ey : tot (D.2.2 1) y = 0 := by unfold tot; rw [if_pos c2]
      rw [ey, if_neg (by omega), if_neg (by omega), if_pos c2]; rfl
    · have ey : tot (D.2.2 1) y = D.2.2 1 + y := by unfold tot; rw [if_neg c2]
      rw [ey, if_neg c2]
      by_cases c3 : D.2.2 0 + x = D.2.2 1 + y
      · rw [if_pos c3]
        by_cases c4 : D.2.2 4 = 0
        · rw [if_pos c4, if_neg (by omega)]; rfl
        · rw [if_neg c4, if_pos (by omega)]; rfl
      · rw [if_neg c3]
        by_cases c4 : D.2.2 0 + x ≤ D.2.2 1 + y
        · rw [if_pos c4, if_neg (by omega)]; rfl
        · rw [if_neg c4, if_pos (by omega)]; rfl
theorem cB_int {D : DD} (hw : DW D) {u y : Nat} (hy : y ≤ 40) : ((cB D 1 u y : Nat) : Int) = min (lB D u y : Int) (xI false (lB D u) 1000000 (40 - y) (y + 1)) := by
  have := lB_le hw (v := u) hy
  unfold cB
  rw [if_neg (by omega), xf_int (e := 1000000) _ _ _ (by unfold rs; rw [if_neg (by decide)]; omega)]
  rfl
theorem cA_int {D : DD} (hw : DW D) {u y : Nat} (hy : y ≤ 40) : ((cA D 1 u y : Nat) : Int) = max (lA D u y : Int) (xI true (lA D u) 0 (40 - y) (y + 1)) := by
  have := lA_le hw (v := u) hy
  unfold cA
  rw [if_neg (by omega), xf_int (e := 0) _ _ _ (by unfold rs; rw [if_pos rfl]; omega)]
  rfl
theorem xI_step {g : Bool} {f : Nat → Nat} {e : Int} {x : Nat} (hx : x + 1 ≤ 40) : xI g f e (40 - x) (x + 1) = bI g (f (x + 1)) (xI g f e (40 - (x + 1)) (x + 1 + 1)) := by
  rw [show 40 - x = (40 - (x + 1)) + 1 by omega]
  rfl
theorem second55_L {D : DD} (hw : DW D) (S : St) {x : Nat} (hx : x ≤ 40) : ∀ y n P x4 x5, y ≤ 40 → y + 1 ≤ n → PT8 D P → x4.toInt = xI false (lB D (uA D x)) 1000000 (40 - y) (y + 1) → x5.toInt = xI true (lA D (uB D x)) 0 (40 - y) (y + 1) → (∀ y', y < y' → y' ≤ 40 → TabC D P x y') →
    ∃ P', m_X1_fillSecond_L55 n S P (nI x) (nI (tot (D.2.2 0) (uA D x))) (nI (tot (D.2.2 1) (uB D x))) x4 x5 (nI y) = some P' ∧ P'.1 = P.1 ∧ P'.2.2 = P.2.2 ∧ (∀ a, (a < 84 ∨ 87 < a) → P'.2.1 a = P.2.1 a) ∧ (∀ a i, (i < 41 * x ∨ 41 * x + 41 ≤ i) → P'.2.1 a i = P.2.1 a i) ∧ (∀ y', 1 ≤ y' → y' ≤ 40 → TabC D P' x y') := by
  intro y
  induction y with
  | zero =>
    intro n P x4 x5 hy hn hP h4 h5 hc
    obtain ⟨m, rfl⟩ : ∃ m, n = m + 1 := ⟨n - 1, by omega⟩
    refine ⟨P, ?_, rfl, rfl, fun _ _ => rfl, fun _ _ _ => rfl, fun y' q1 q2 => hc y' (by omega) q2⟩
    unfold m_X1_fillSecond_L55
    rw [if_pos (show nI 0 < 1 by decide)]
  | succ y ih =>
    intro n P x4 x5 hy hn hP h4 h5 hc
    obtain ⟨m, rfl⟩ : ∃ m, n = m + 1 := ⟨n - 1, by omega⟩
    obtain ⟨p70, p71, p72, p73, p74, p75, p76, p77, p82⟩ := id hP
    have w := hw.2.2.2
    have huA : uA D x ≤ 40 := by unfold uA; split <;> omega
    have huB : uB D x ≤ 40 := by unfold uB; split <;> omega
    have hlB := lB_le hw (v := uA D x) hy
    have hlA := lA_le hw (v := uB D x) hy
    have hcB := cB_le hw (c := 1) (v := uA D x) hy
    have hcA := cA_le hw (c := 1) (v := uB D x) hy
    have e4 : mn x4 (nI (lB D (uA D x) (y + 1))) = nI (cB D 1 (uA D x) (y + 1)) := eq_nI (by omega) (by rw [mn_i, tiN (by omega), h4, cB_int hw hy]; omega)
    have e5 : mx x5 (nI (lA D (uB D x) (y + 1))) = nI (cA D 1 (uB D x) (y + 1)) := eq_nI (by omega) (by rw [mx_i, tiN (by omega), h5, cA_int hw hy]; omega)
    obtain ⟨P4, hP4⟩ : ∃ P4, P4 = sA (sA (sA (sA P 84 (41 * x + (y + 1)) (nI (lB D (uA D x) (y + 1)))) 85 (41 * x + (y + 1)) (nI (cB D 1 (uA D x) (y + 1)))) 86 (41 * x + (y + 1)) (nI (lA D (uB D x) (y + 1)))) 87 (41 * x + (y + 1)) (nI (cA D 1 (uB D x) (y + 1))) := ⟨_, rfl⟩
    have f1 : P4.1 = P.1 := by rw [hP4]; rfl
    have f2 : P4.2.2 = P.2.2 := by rw [hP4]; rfl
    have f3 : ∀ a, (a < 84 ∨ 87 < a) → P4.2.1 a = P.2.1 a := fun a ha => by rw [hP4, sA_row (by omega), sA_row (by omega), sA_row (by omega), sA_row (by omega)]
    have f4 : ∀ a i, i ≠ 41 * x + (y + 1) → P4.2.1 a i = P.2.1 a i := fun a i hi => by
      rw [hP4, sA_off hi, sA_off hi, sA_off hi, sA_off hi]
    have f5 : TabC D P4 x (y + 1) := by
      unfold TabC
      rw [hP4]
      refine ⟨?_, ?_, ?_, sA_eq⟩
      · rw [sA_row (by omega), sA_row (by omega), sA_row (by omega), sA_eq]
      · rw [sA_row (by omega), sA_row (by omega), sA_eq]
      · rw [sA_row (by omega), sA_eq]
    obtain ⟨P', g1, g2, g3, g4, g5, g6⟩ := ih m P4 (nI (cB D 1 (uA D x) (y + 1))) (nI (cA D 1 (uB D x) (y + 1))) (by omega) (by omega) (hP.fr f1 (fun a ha => f3 a (by omega))) (by rw [tiN (by omega), cB_int hw hy, xI_step hy]; rfl) (by rw [tiN (by omega), cA_int hw hy, xI_step hy]; rfl) (fun y' q1 q2 => by
      by_cases cy : y' = y + 1
      · rw [cy]; exact f5
      · have := hc y' (by omega) q2
        unfold TabC
        rw [f4 84 _ (by omega), f4 85 _ (by omega), f4 86 _ (by omega), f4 87 _ (by omega)]
        exact this)
    refine ⟨P', ?_, g2.trans f1, g3.trans f2, fun a ha => (g4 a ha).trans (f3 a ha), fun a i hi => (g5 a i hi).trans (f4 a i (by omega)), g6⟩
    have t74 : nI (D.2.2 0) + nI (y + 1) = nI (tot (D.2.2 0) (y + 1)) := by unfold tot; rw [if_neg (by omega), nI_add]
    have t75 : nI (D.2.2 1) + nI (y + 1) = nI (tot (D.2.2 1) (y + 1)) := by unfold tot; rw [if_neg (by omega), nI_add]
    unfold m_X1_fillSecond_L55
    simp only [nmE]
    rw [if_neg (show ¬ nI (y + 1) < 1 by rw [lit32 1, ltN (by omega) (by omega)]; omega), p74, p75, p76, p77, t74, t75, ckN (by omega) (by omega), out8d S hw p70 huA hy, Option.bind_some, out8d S hw p70 huA (by omega), Option.bind_some, clN (by omega), (p82 (y + 1) (by omega) hy).2, mix8 S (hw.1 _ hy).2 (eN_le _ _ _) (eN_le _ _ _), Option.bind_some, ckN (by omega) (by omega), out8d S hw p70 hy huB, Option.bind_some, out8d S hw p70 (by omega) huB, Option.bind_some, (p82 (y + 1) (by omega) hy).1, mix8 S (hw.1 _ hy).1 (eN_le _ _ _) (eN_le _ _ _), Option.bind_some, show nI x * 41 + nI (y + 1) = nI (41 * x + (y + 1)) by rw [lit32 41, pk_mul, nI_add, Nat.mul_comm], ckN (by omega) (by omega), ckN (by omega) (by omega), ckN (by omega) (by omega), ckN (by omega) (by omega), clN (by omega), pk_m1]
    rw [show mixN (D.2.1 (y + 1)) (eN D (uA D x) (y + 1)) (eN D (uA D x) (D.2.2 3)) = lB D (uA D x) (y + 1) from rfl, show mixN (D.1 (y + 1)) (eN D (y + 1) (uB D x)) (eN D (D.2.2 2) (uB D x)) = lA D (uB D x) (y + 1) from rfl, e4, e5, ← hP4]
    exact g1
theorem second2_L {D : DD} (hw : DW D) (S : St) : ∀ e x n P, x + e = 41 → e + 45 ≤ n → PT8 D P → (∀ x' y', x' < x → 1 ≤ y' → y' ≤ 40 → TabC D P x' y') →
    ∃ P', m_X1_fillSecond_L2 n S P (nI x) = some P' ∧ P'.1 = P.1 ∧ P'.2.2 = P.2.2 ∧ (∀ a, (a < 84 ∨ 87 < a) → P'.2.1 a = P.2.1 a) ∧ (∀ x' y', x' ≤ 40 → 1 ≤ y' → y' ≤ 40 → TabC D P' x' y') := by
  intro e
  induction e with
  | zero =>
    intro x n P hx hn hP hc
    obtain ⟨m, rfl⟩ : ∃ m, n = m + 1 := ⟨n - 1, by omega⟩
    refine ⟨P, ?_, rfl, rfl, fun _ _ => rfl, fun x' y' q1 q2 q3 => hc x' y' (by omega) q2 q3⟩
    unfold m_X1_fillSecond_L2
    rw [lit32 40, if_pos (show nI 40 < nI x by rw [ltN (by omega) (by omega)]; omega)]
  | succ e ih =>
    intro x n P hx hn hP hc
    obtain ⟨m, rfl⟩ : ∃ m, n = m + 1 := ⟨n - 1, by omega⟩
    obtain ⟨p70, p71, p72, p73, p74, p75, p76, p77, p82⟩ := id hP
    obtain ⟨P1, f1, f2, f3, f4, f5, f6⟩ := second55_L hw S (show x ≤ 40 by omega) 40 m P 1000000 0 (by omega) (by omega) hP rfl rfl (fun y' q1 q2 => absurd q1 (by omega))
    obtain ⟨P', g1, g2, g3, g4, g5⟩ := ih (x + 1) m P1 (by omega) (by omega) (hP.fr f2 (fun a ha => f4 a (by omega))) (fun x' y' q1 q2 q3 => by
      by_cases cx : x' = x
      · rw [cx]; exact f6 y' q2 q3
      · have := hc x' y' (by omega) q2 q3
        unfold TabC
        rw [f5 84 _ (by omega), f5 85 _ (by omega), f5 86 _ (by omega), f5 87 _ (by omega)]
        exact this)
    refine ⟨P', ?_, g2.trans f2, g3.trans f3, fun a ha => (g4 a ha).trans (f4 a ha), g5⟩
    unfold m_X1_fillSecond_L2
    rw [lit32 40, if_neg (show ¬ nI 40 < nI x by rw [ltN (by omega) (by omega)]; omega), p74, p75, p76, p77, nI_add, nI_add]
    have q1 : ((if nI x = 0 then (some (nI (tot (D.2.2 0) (D.2.2 2)))) else (some (nI (D.2.2 0 + x))) : Option (Int32))) = some (nI (tot (D.2.2 0) (uA D x))) := by
      rw [if0N (by omega)]
      by_cases c : x = 0
      · rw [if_pos c]; unfold uA; rw [if_pos c]
      · rw [if_neg c]; unfold uA tot; rw [if_neg c, if_neg c]
    have q2 : ((if nI x = 0 then (some (nI (tot (D.2.2 1) (D.2.2 3)))) else (some (nI (D.2.2 1 + x))) : Option (Int32))) = some (nI (tot (D.2.2 1) (uB D x))) := by
      rw [if0N (by omega)]
      by_cases c : x = 0
      · rw [if_pos c]; unfold uB; rw [if_pos c]
      · rw [if_neg c]; unfold uB tot; rw [if_neg c, if_neg c]
    rw [q1, Option.bind_some, q2, Option.bind_some, f1, Option.bind_some, s1]
    exact g1
theorem second8 {D : DD} (hw : DW D) (S : St) {P : St} {n : Nat} (hP : PT8 D P) (hn : 100 ≤ n) : ∃ P', m_X1_fillSecond n S P = some P' ∧ P'.2.2 = P.2.2 ∧ PI D P' := by
  obtain ⟨P', g1, g2, g3, g4, g5⟩ := second2_L hw S 41 0 n P (by omega) (by omega) hP (fun x' y' q => absurd q (by omega))
  refine ⟨P', ?_, g3, hP.fr g2 (fun a ha => g4 a (by omega)), g5⟩
  unfold m_X1_fillSecond
  rw [show m_X1_fillSecond_L2 n S P 0 = _ from g1]
  rfl
