/-! ===== layer B: the duel; the class's fields ===== -/
theorem first8d (S : St) {D : DD} {P : St} (hw : DW D) (hP : PT8 D P) {a b : Nat} (ha : a ≤ 40) (hb : b ≤ 40) : m_X1_isFirst S P (nI a) (nI b) = some (if fst D a b = true then 1 else 0) := by
  have h5 := hw.2.2.2.2.2.2.2.2
  unfold m_X1_isFirst fst
  rw [ifeqN (by omega) (by omega), hP.2.1, ckbN h5, ifleN (by omega) (by omega)]
  by_cases c : a = b
  · rw [if_pos c]
    by_cases c2 : D.2.2 5 = 1
    · rw [if_pos (decide_eq_true (Or.inr ⟨c, c2⟩)), c2]; rfl
    · rw [if_neg (fun q => by have := of_decide_eq_true q; omega), show D.2.2 5 = 0 by omega]; rfl
  · rw [if_neg c]
    by_cases c2 : b ≤ a
    · rw [if_pos c2, if_neg (fun q => by have := of_decide_eq_true q; omega)]
    · rw [if_neg c2, if_pos (decide_eq_true (by omega))]
theorem cB_some {D : DD} {d u y : Nat} (h : d ≠ 0) : cB D d u y = cB D 1 u y := by
  unfold cB
  rw [if_neg h, if_neg (by omega)]
theorem cA_some {D : DD} {d u y : Nat} (h : d ≠ 0) : cA D d u y = cA D 1 u y := by
  unfold cA
  rw [if_neg h, if_neg (by omega)]
theorem try8d (S : St) {D : DD} {P : St} (hw : DW D) (hP : PI D P) {a b c d : Nat} (ha1 : 1 ≤ a) (ha : a ≤ 40) (hb1 : 1 ≤ b) (hb : b ≤ 40) (hc : c ≤ 2) (hd : d ≤ 2) : m_X1_valueOfTry S P (nI a) (nI b) (nI c) (nI d) = some (nI (tV D c d a b)) := by
  have e41 : ∀ x y, nI x * 41 + nI y = nI (41 * x + y) := fun x y => by rw [lit32 41, pk_mul, nI_add, Nat.mul_comm]
  have uAa : uA D a = a := by unfold uA; rw [if_neg (by omega)]
  have uBb : uB D b = b := by unfold uB; rw [if_neg (by omega)]
  have uA0 : uA D 0 = D.2.2 2 := rfl
  have uB0 : uB D 0 = D.2.2 3 := rfl
  obtain ⟨x1, x2, x3, x4⟩ := hP.2 a b ha hb1 hb
  obtain ⟨y1, y2, y3, y4⟩ := hP.2 b a hb ha1 ha
  obtain ⟨z1, z2, z3, z4⟩ := hP.2 0 b (by omega) hb1 hb
  obtain ⟨v1, v2, v3, v4⟩ := hP.2 0 a (by omega) ha1 ha
  rw [uAa] at x1 x2
  rw [uBb] at y3 y4
  rw [uA0, show 41 * 0 + b = b by omega] at z1 z2
  rw [uB0, show 41 * 0 + a = a by omega] at v3 v4
  unfold m_X1_valueOfTry tV
  rw [first8d S hw hP.1 ha hb, Option.bind_some]
  by_cases cf : fst D a b = true
  · rw [if_pos cf, if_pos cf, if_neg (show ¬ (1 : Int32) = 0 by decide), ifle0N (by omega)]
    rw [e41, ckN (by omega) (by omega), ckN (by omega) (by omega), ckN (by omega) (by omega), clN (by omega), clN (by omega), clN (by omega), (hP.1.2.2.2.2.2.2.2.2 a ha1 ha).1, x1, x2, z1, z2]
    by_cases cd : d = 0
    · rw [if_pos (show d ≤ 0 by omega), mix8 S (hw.1 _ ha).1 (lB_le hw hb) (lB_le hw hb)]
      unfold cB
      rw [if_pos cd, if_pos cd]
      rfl
    · rw [if_neg (show ¬ d ≤ 0 by omega), ckN (by omega) (by omega), ckN (by omega) (by omega), ckN (by omega) (by omega), mix8 S (hw.1 _ ha).1 (cB_le hw hb) (cB_le hw hb), cB_some cd, cB_some cd]
      rfl
  · rw [if_neg cf, if_neg cf, if_pos rfl, ifle0N (by omega)]
    rw [e41, ckN (by omega) (by omega), ckN (by omega) (by omega), ckN (by omega) (by omega), clN (by omega), clN (by omega), clN (by omega), (hP.1.2.2.2.2.2.2.2.2 b hb1 hb).2, y3, y4, v3, v4]
    by_cases cc : c = 0
    · rw [if_pos (show c ≤ 0 by omega), mix8 S (hw.1 _ hb).2 (lA_le hw ha) (lA_le hw ha)]
      unfold cA
      rw [if_pos cc, if_pos cc]
      rfl
    · rw [if_neg (show ¬ c ≤ 0 by omega), ckN (by omega) (by omega), ckN (by omega) (by omega), ckN (by omega) (by omega), mix8 S (hw.1 _ hb).2 (cA_le hw ha) (cA_le hw ha), cA_some cc, cA_some cc]
      rfl
/-! the best of all greater loads -/
def rA (D : DD) (i j a b : Nat) : Int := if i = 0 then -1 else xI true (fun x => dV D (i - 1) j x b) (-1) (40 - a) (a + 1)
def rB (D : DD) (i j a b : Nat) : Int := if j = 0 then 1000001 else xI false (fun y => dV D i (j - 1) a y) 1000001 (40 - b) (b + 1)
theorem dV_int {D : DD} (hw : DW D) {i j a b : Nat} (ha : a ≤ 40) (hb : b ≤ 40) : ((dV D i j a b : Nat) : Int) = if fst D a b = true then max (tV D i j a b : Int) (rA D i j a b) else min (tV D i j a b : Int) (rB D i j a b) := by
  have ht := tV_le hw (c := i) (d := j) ha hb
  rw [dV_eq]
  unfold rA rB
  by_cases cf : fst D a b = true
  · rw [if_pos cf, if_pos cf]
    by_cases c : i = 0
    · rw [if_pos c, if_pos c]; omega
    · rw [if_neg c, if_neg c, xf_int (e := -1) _ _ _ (by unfold rs; rw [if_pos rfl]; omega)]
      rfl
  · rw [if_neg cf, if_neg cf]
    by_cases c : j = 0
    · rw [if_pos c, if_pos c]; omega
    · rw [if_neg c, if_neg c, xf_int (e := 1000001) _ _ _ (by unfold rs; rw [if_neg (by decide)]; omega)]
      rfl
theorem rA_step {D : DD} {i j a b : Nat} (ha : a + 1 ≤ 40) : rA D i j a b = if i = 0 then -1 else max (dV D (i - 1) j (a + 1) b : Int) (rA D i j (a + 1) b) := by
  unfold rA
  by_cases c : i = 0
  · rw [if_pos c, if_pos c]
  · rw [if_neg c, if_neg c, if_neg c, xI_step ha]; rfl
theorem rB_step {D : DD} {i j a b : Nat} (hb : b + 1 ≤ 40) : rB D i j a b = if j = 0 then 1000001 else min (dV D i (j - 1) a (b + 1) : Int) (rB D i j a (b + 1)) := by
  unfold rB
  by_cases c : j = 0
  · rw [if_pos c, if_pos c]
  · rw [if_neg c, if_neg c, if_neg c, xI_step hb]; rfl
def Laid8 (D : DD) (P : St) (i j : Nat) : Prop := ∀ a b, D.2.2 6 ≤ a → a ≤ 40 → D.2.2 7 ≤ b → b ≤ 40 → P.2.1 88 (cl i j a b) = nI (dV D i j a b)
theorem Laid8.keep {D : DD} {P P' : St} {c d : Nat} (h : Laid8 D P c d) (e : ∀ y, 1681 * (3 * c + d) ≤ y → y < 1681 * (3 * c + d) + 1681 → P'.2.1 88 y = P.2.1 88 y) : Laid8 D P' c d := by
  intro a b h1 h2 h3 h4
  rw [e (cl c d a b) (by unfold cl; omega) (by unfold cl; omega)]
  exact h a b h1 h2 h3 h4
/-- the fields below -/
def lfA (i j : Nat) : Nat := if i = 0 then 0 else 1681 * (3 * (i - 1) + j)
def lfB (i j : Nat) : Nat := if j = 0 then 0 else 1681 * (3 * i + (j - 1))
theorem field59_L {D : DD} (hw : DW D) (S : St) {i j a : Nat} (hi : i ≤ 2) (hj : j ≤ 2) (ha1 : D.2.2 6 ≤ a + 1) (ha : a + 1 ≤ 40) :
    ∀ e b n P x7, b + 1 = D.2.2 7 + e → b ≤ 40 → e + 1 ≤ n → PI D P → (i ≠ 0 → Laid8 D P (i - 1) j) → (j ≠ 0 → Laid8 D P i (j - 1)) → x7.toInt = rB D i j (a + 1) b → (∀ b', D.2.2 7 ≤ b' → b' ≤ b → (P.2.1 89 b').toInt = rA D i j (a + 1) b') → (∀ b', b < b' → b' ≤ 40 → (P.2.1 89 b').toInt = rA D i j a b') → (∀ b', b < b' → b' ≤ 40 → P.2.1 88 (cl i j (a + 1) b') = nI (dV D i j (a + 1) b')) →
    ∃ P', m_X1_fillField_L59 n S P (nI i) (nI j) (nI (1681 * (3 * i + j))) (nI (lfA i j)) (nI (lfB i j)) (nI (a + 1)) x7 (nI b) = some P' ∧ P'.1 = P.1 ∧ P'.2.2 = P.2.2 ∧ (∀ r, r < 88 → P'.2.1 r = P.2.1 r) ∧ (∀ y, (y < cl i j (a + 1) 0 ∨ cl i j (a + 1) 0 + 41 ≤ y) → P'.2.1 88 y = P.2.1 88 y) ∧ (∀ b', D.2.2 7 ≤ b' → b' ≤ 40 → (P'.2.1 89 b').toInt = rA D i j a b') ∧ (∀ b', D.2.2 7 ≤ b' → b' ≤ 40 → P'.2.1 88 (cl i j (a + 1) b') = nI (dV D i j (a + 1) b')) := by
  have w := hw.2.2.2
  intro e
  induction e with
  | zero =>
    intro b n P x7 hb hb2 hn hP hlA hlB h7 h89 h89' h88
    obtain ⟨m, rfl⟩ : ∃ m, n = m + 1 := ⟨n - 1, by omega⟩
    refine ⟨P, ?_, rfl, rfl, fun _ _ => rfl, fun _ _ => rfl, fun b' q1 q2 => h89' b' (by omega) q2, fun b' q1 q2 => h88 b' (by omega) q2⟩
    unfold m_X1_fillField_L59
    rw [hP.1.2.2.2.1, if_pos (show nI b < nI (D.2.2 7) by rw [ltN (by omega) (by omega)]; omega)]
  | succ e ih =>
    intro b n P x7 hb hb2 hn hP hlA hlB h7 h89 h89' h88
    obtain ⟨m, rfl⟩ : ∃ m, n = m + 1 := ⟨n - 1, by omega⟩
    obtain ⟨b, rfl⟩ : ∃ b', b = b' + 1 := ⟨b - 1, by omega⟩
    have htv := tV_le hw (c := i) (d := j) ha hb2
    have hdv := dV_le hw (c := i) (d := j) ha hb2
    have hcl := cl_lt (c := i) (d := j) hi hj ha hb2
    have hval := dV_int hw (i := i) (j := j) ha hb2
    -- the value
    have hq : ((if (if fst D (a + 1) (b + 1) = true then (1 : Int32) else 0) = 0 then (some (mn (nI (tV D i j (a + 1) (b + 1))) x7)) else (ck (nI (b + 1)) 41 (some (mx (nI (tV D i j (a + 1) (b + 1))) (P.2.1 89 (nI (b + 1)).toNatClampNeg)))) : Option (Int32))) = some (nI (dV D i j (a + 1) (b + 1))) := by
      by_cases cf : fst D (a + 1) (b + 1) = true
      · rw [if_pos cf] at hval ⊢
        rw [if_neg (show ¬ (1 : Int32) = 0 by decide), ckN (by omega) (by omega), clN (by omega)]
        congr 1
        apply eq_nI (by omega)
        rw [mx_i, tiN (by omega), h89 (b + 1) (by omega) (by omega), hval]
      · rw [if_neg cf] at hval ⊢
        rw [if_pos rfl]
        congr 1
        apply eq_nI (by omega)
        rw [mn_i, tiN (by omega), h7, hval]
    -- the state behind it
    obtain ⟨P1, hP1⟩ : ∃ P1, P1 = sA P 88 (cl i j (a + 1) (b + 1)) (nI (dV D i j (a + 1) (b + 1))) := ⟨_, rfl⟩
    have k1 : P1.1 = P.1 := by rw [hP1]; rfl
    have k2 : P1.2.2 = P.2.2 := by rw [hP1]; rfl
    have k3 : ∀ r, r ≠ 88 → P1.2.1 r = P.2.1 r := fun r hr => by rw [hP1, sA_row hr]
    have k4 : ∀ y, y ≠ cl i j (a + 1) (b + 1) → P1.2.1 88 y = P.2.1 88 y := fun y hy => by rw [hP1, sA_ne hy]
    have k5 : P1.2.1 88 (cl i j (a + 1) (b + 1)) = nI (dV D i j (a + 1) (b + 1)) := by rw [hP1, sA_eq]
    have hr : ∃ P2, ((if nI i ≤ 0 then (some P1) else (ck (nI (b + 1)) 41 (ck (nI (lfA i j) + nI (41 * (a + 1) + (b + 1))) 15129 (ck (nI (b + 1)) 41 (nm (sA P1 89 (nI (b + 1)).toNatClampNeg (mx (P1.2.1 89 (nI (b + 1)).toNatClampNeg) (P1.2.1 88 (nI (lfA i j) + nI (41 * (a + 1) + (b + 1))).toNatClampNeg))) (fun P37 => some P37))))) : Option (St))) = some P2 ∧ P2.1 = P1.1 ∧ P2.2.2 = P1.2.2 ∧ (∀ r, r ≠ 89 → P2.2.1 r = P1.2.1 r) ∧ (∀ y, y ≠ b + 1 → P2.2.1 89 y = P1.2.1 89 y) ∧ (P2.2.1 89 (b + 1)).toInt = rA D i j a (b + 1) := by
      rw [ifle0N (by omega)]
      by_cases ci : i = 0
      · refine ⟨P1, by rw [if_pos (show i ≤ 0 by omega)], rfl, rfl, fun _ _ => rfl, fun _ _ => rfl, ?_⟩
        rw [k3 89 (by omega), h89 (b + 1) (by omega) (by omega)]
        unfold rA
        rw [if_pos ci, if_pos ci]
      · have hcl2 := cl_lt (c := i - 1) (d := j) (by omega) hj ha hb2
        have ecl : lfA i j + (41 * (a + 1) + (b + 1)) = cl (i - 1) j (a + 1) (b + 1) := by unfold lfA cl; rw [if_neg ci]; omega
        have hdv2 := dV_le hw (c := i - 1) (d := j) ha hb2
        refine ⟨sA P1 89 (b + 1) (mx (P.2.1 89 (b + 1)) (nI (dV D (i - 1) j (a + 1) (b + 1)))), ?_, rfl, rfl, fun r hr => sA_row hr, fun y hy => sA_ne hy, ?_⟩
        · rw [if_neg (show ¬ i ≤ 0 by omega), nI_add, ecl, ckN (by omega) (by omega), ckN (by omega) (by omega), ckN (by omega) (by omega), nmE, clN (by omega), clN (by omega), k3 89 (by omega), k4 _ (by unfold cl; omega), hlA ci (a + 1) (b + 1) ha1 ha (by omega) hb2]
        · rw [sA_eq, mx_i, tiN (by omega), h89 (b + 1) (by omega) (by omega), rA_step ha, if_neg ci]
          omega
    obtain ⟨P2, r1, r2, r3, r4, r5, r6⟩ := hr
    have k88 : P2.2.1 88 = P1.2.1 88 := r4 88 (by omega)
    -- lowered
    have h7' : ∃ v, v.toInt = rB D i j (a + 1) b ∧ ∀ (L : Int32 → Option St), ((if nI j ≤ 0 then L x7 else (ck (nI (lfB i j) + nI (41 * (a + 1) + (b + 1))) 15129 (nm (mn x7 (P2.2.1 88 (nI (lfB i j) + nI (41 * (a + 1) + (b + 1))).toNatClampNeg)) (fun v32 => L v32)))) : Option St) = L v := by
      by_cases cj : j = 0
      · refine ⟨x7, ?_, fun L => by rw [ifle0N (by omega), if_pos (show j ≤ 0 by omega)]⟩
        rw [h7]; unfold rB; rw [if_pos cj, if_pos cj]
      · have hcl2 := cl_lt (c := i) (d := j - 1) hi (by omega) ha hb2
        have ecl : lfB i j + (41 * (a + 1) + (b + 1)) = cl i (j - 1) (a + 1) (b + 1) := by unfold lfB cl; rw [if_neg cj]; omega
        have hdv2 := dV_le hw (c := i) (d := j - 1) ha hb2
        refine ⟨mn x7 (nI (dV D i (j - 1) (a + 1) (b + 1))), ?_, fun L => ?_⟩
        · rw [mn_i, tiN (by omega), h7, rB_step hb2, if_neg cj]
          omega
        · rw [ifle0N (by omega), if_neg (show ¬ j ≤ 0 by omega), nI_add, ecl, ckN (by omega) (by omega), nmE, clN (by omega), k88, k4 _ (by unfold cl; omega), hlB cj (a + 1) (b + 1) ha1 ha (by omega) hb2]
    obtain ⟨v, v1, v2⟩ := h7'
    have hPI : PI D P2 := hP.fr (r2.trans k1) (fun r hr => (r4 r (by omega)).trans (k3 r (by omega)))
    obtain ⟨P', g1, g2, g3, g4, g5, g6, g7⟩ := ih b m P2 v (by omega) (by omega) (by omega) hPI (fun q => (hlA q).keep (fun y z1 z2 => by rw [k88]; exact k4 y (by unfold cl; omega))) (fun q => (hlB q).keep (fun y z1 z2 => by rw [k88]; exact k4 y (by unfold cl; omega))) v1 (fun b' q1 q2 => by rw [r5 b' (by omega), k3 89 (by omega)]; exact h89 b' q1 (by omega)) (fun b' q1 q2 => by
      by_cases cb : b' = b + 1
      · rw [cb]; exact r6
      · rw [r5 b' cb, k3 89 (by omega)]; exact h89' b' (by omega) q2) (fun b' q1 q2 => by
      rw [k88]
      by_cases cb : b' = b + 1
      · rw [cb]; exact k5
      · rw [k4 _ (by unfold cl; omega)]; exact h88 b' (by omega) q2)
    refine ⟨P', ?_, g2.trans (r2.trans k1), g3.trans (r3.trans k2), fun r hr => (g4 r hr).trans ((r4 r (by omega)).trans (k3 r (by omega))), fun y hy => (g5 y hy).trans (by rw [k88]; exact k4 y (by unfold cl at *; omega)), g6, g7⟩
    have e41 : nI (a + 1) * 41 + nI (b + 1) = nI (41 * (a + 1) + (b + 1)) := by rw [lit32 41, pk_mul, nI_add, Nat.mul_comm]
    have ecl : nI (1681 * (3 * i + j)) + nI (41 * (a + 1) + (b + 1)) = nI (cl i j (a + 1) (b + 1)) := by rw [nI_add]; unfold cl; rw [Nat.add_assoc]
    unfold m_X1_fillField_L59
    rw [hP.1.2.2.2.1, if_neg (show ¬ nI (b + 1) < nI (D.2.2 7) by rw [ltN (by omega) (by omega)]; omega), if_neg (show ¬ nI (b + 1) < 1 by rw [lit32 1, ltN (by omega) (by omega)]; omega), try8d S hw hP (by omega) ha (by omega) hb2 hi hj, Option.bind_some, first8d S hw hP.1 ha hb2, Option.bind_some, hq, Option.bind_some, e41, ecl, ckN hcl (by omega), nmE, clN (by omega), ← hP1, r1, Option.bind_some, v2 (fun z => m_X1_fillField_L59 m S P2 (nI i) (nI j) (nI (1681 * (3 * i + j))) (nI (lfA i j)) (nI (lfB i j)) (nI (a + 1)) z (nI (b + 1) + (-1))), pk_m1]
    exact g1
theorem field36_L {D : DD} (hw : DW D) (S : St) {i j : Nat} (hi : i ≤ 2) (hj : j ≤ 2) :
    ∀ e a n P, a + 1 = D.2.2 6 + e → a ≤ 40 → e + 50 ≤ n → PI D P → (i ≠ 0 → Laid8 D P (i - 1) j) → (j ≠ 0 → Laid8 D P i (j - 1)) → (∀ b', D.2.2 7 ≤ b' → b' ≤ 40 → (P.2.1 89 b').toInt = rA D i j a b') → (∀ a' b', a < a' → a' ≤ 40 → D.2.2 7 ≤ b' → b' ≤ 40 → P.2.1 88 (cl i j a' b') = nI (dV D i j a' b')) →
    ∃ P', m_X1_fillField_L36 n S P (nI i) (nI j) (nI (1681 * (3 * i + j))) (nI (lfA i j)) (nI (lfB i j)) (nI a) = some P' ∧ P'.1 = P.1 ∧ P'.2.2 = P.2.2 ∧ (∀ r, r < 88 → P'.2.1 r = P.2.1 r) ∧ (∀ y, (y < 1681 * (3 * i + j) ∨ 1681 * (3 * i + j) + 1681 ≤ y) → P'.2.1 88 y = P.2.1 88 y) ∧ Laid8 D P' i j := by
  have w := hw.2.2.2
  intro e
  induction e with
  | zero =>
    intro a n P ha ha2 hn hP hlA hlB h89 h88
    obtain ⟨m, rfl⟩ : ∃ m, n = m + 1 := ⟨n - 1, by omega⟩
    refine ⟨P, ?_, rfl, rfl, fun _ _ => rfl, fun _ _ => rfl, fun a' b' q1 q2 q3 q4 => h88 a' b' (by omega) q2 q3 q4⟩
    unfold m_X1_fillField_L36
    rw [hP.1.2.2.1, if_pos (show nI a < nI (D.2.2 6) by rw [ltN (by omega) (by omega)]; omega)]
  | succ e ih =>
    intro a n P ha ha2 hn hP hlA hlB h89 h88
    obtain ⟨m, rfl⟩ : ∃ m, n = m + 1 := ⟨n - 1, by omega⟩
    obtain ⟨a, rfl⟩ : ∃ a', a = a' + 1 := ⟨a - 1, by omega⟩
    have hl0 : ∀ x, rB D i j x 40 = 1000001 := fun x => by unfold rB; split <;> rfl
    obtain ⟨P1, f1, f2, f3, f4, f5, f6, f7⟩ := field59_L hw S hi hj (show D.2.2 6 ≤ a + 1 by omega) ha2 (41 - D.2.2 7) 40 m P 1000001 (by omega) (by omega) (by omega) hP hlA hlB (by rw [hl0]; rfl) h89 (fun b' q1 q2 => absurd q1 (by omega)) (fun b' q1 q2 => absurd q1 (by omega))
    obtain ⟨P', g1, g2, g3, g4, g5, g6⟩ := ih a m P1 (by omega) (by omega) (by omega) (hP.fr f2 f4) (fun q => (hlA q).keep (fun y z1 z2 => f5 y (by unfold cl; omega))) (fun q => (hlB q).keep (fun y z1 z2 => f5 y (by unfold cl; omega))) f6 (fun a' b' q1 q2 q3 q4 => by
      by_cases ca : a' = a + 1
      · rw [ca]; exact f7 b' q3 q4
      · rw [f5 _ (by unfold cl; omega)]; exact h88 a' b' (by omega) q2 q3 q4)
    refine ⟨P', ?_, g2.trans f2, g3.trans f3, fun r hr => (g4 r hr).trans (f4 r hr), fun y hy => (g5 y hy).trans (f5 y (by unfold cl; omega)), g6⟩
    unfold m_X1_fillField_L36
    rw [hP.1.2.2.1, if_neg (show ¬ nI (a + 1) < nI (D.2.2 6) by rw [ltN (by omega) (by omega)]; omega), if_neg (show ¬ nI (a + 1) < 1 by rw [lit32 1, ltN (by omega) (by omega)]; omega), show m_X1_fillField_L59 m S P (nI i) (nI j) (nI (1681 * (3 * i + j))) (nI (lfA i j)) (nI (lfB i j)) (nI (a + 1)) 1000001 40 = _ from f1, Option.bind_some, pk_m1]
    exact g1
theorem fieldOf8 (S P : St) {i j : Nat} (hi : i ≤ 2) (hj : j ≤ 2) : m_X1_fieldOf S P (nI i) (nI j) = some (nI (1681 * (3 * i + j))) := by
  unfold m_X1_fieldOf
  rw [if_neg (nI_pos (by omega)), lit32 3, if_neg (show ¬ nI 3 ≤ nI i by rw [leN (by omega) (by omega)]; omega), if_neg (nI_pos (by omega)), if_neg (show ¬ nI 3 ≤ nI j by rw [leN (by omega) (by omega)]; omega), Option.bind_some, if_neg (show ¬ (1 : Int32) = 0 by decide), lit32 1681, pk_mul, nI_add, pk_mul]
  congr 2
  omega
theorem fieldA8 (S P : St) {i j : Nat} (hi : i ≤ 2) (hj : j ≤ 2) : m_X1_fieldOf S P (nI i - 1) (nI j) = some (nI (lfA i j)) := by
  unfold lfA
  by_cases c : i = 0
  · rw [if_pos c, c]
    unfold m_X1_fieldOf
    rw [if_pos (show nI 0 - 1 < 0 by decide)]
    rfl
  · rw [if_neg c, show nI i - 1 = nI (i - 1) by rw [lit32 1, subN (by omega)], fieldOf8 S P (by omega) hj]
theorem fieldB8 (S P : St) {i j : Nat} (hi : i ≤ 2) (hj : j ≤ 2) : m_X1_fieldOf S P (nI i) (nI j - 1) = some (nI (lfB i j)) := by
  unfold lfB
  by_cases c : j = 0
  · rw [if_pos c, c]
    unfold m_X1_fieldOf
    rw [if_neg (nI_pos (by omega)), lit32 3, if_neg (show ¬ nI 3 ≤ nI i by rw [leN (by omega) (by omega)]; omega), if_pos (show nI 0 - 1 < 0 by decide)]
    rfl
  · rw [if_neg c, show nI j - 1 = nI (j - 1) by rw [lit32 1, subN (by omega)], fieldOf8 S P hi (by omega)]
theorem field8 {D : DD} (hw : DW D) (S : St) {P : St} {i j n : Nat} (hi : i ≤ 2) (hj : j ≤ 2) (hn : 100 ≤ n) (hP : PI D P) (hlA : i ≠ 0 → Laid8 D P (i - 1) j) (hlB : j ≠ 0 → Laid8 D P i (j - 1)) :
    ∃ P', m_X1_fillField n S P (nI i) (nI j) = some P' ∧ P'.1 = P.1 ∧ P'.2.2 = P.2.2 ∧ (∀ r, r < 88 → P'.2.1 r = P.2.1 r) ∧ (∀ y, (y < 1681 * (3 * i + j) ∨ 1681 * (3 * i + j) + 1681 ≤ y) → P'.2.1 88 y = P.2.1 88 y) ∧ Laid8 D P' i j := by
  have w := hw.2.2.2
  have hr0 : ∀ y, rA D i j 40 y = -1 := fun y => by unfold rA; split <;> rfl
  have k : ∀ r, r ≠ 89 → (sF P 89 (fun _ => (-1))).2.1 r = P.2.1 r := fun r hr => by rw [sF_21, if_neg hr]
  obtain ⟨P', g1, g2, g3, g4, g5, g6⟩ := field36_L hw S hi hj (41 - D.2.2 6) 40 n (sF P 89 (fun _ => (-1))) (by omega) (by omega) (by omega) (hP.fr rfl (fun r hr => k r (by omega))) (fun q => (hlA q).keep (fun y _ _ => by rw [k 88 (by omega)])) (fun q => (hlB q).keep (fun y _ _ => by rw [k 88 (by omega)])) (fun b' q1 q2 => by rw [hr0, sF_21, if_pos rfl]; rfl) (fun a' b' q1 q2 => absurd q1 (by omega))
  refine ⟨P', ?_, g2, g3, fun r hr => (g4 r hr).trans (k r (by omega)), fun y hy => (g5 y hy).trans (by rw [k 88 (by omega)]), g6⟩
  unfold m_X1_fillField
  rw [fieldOf8 S P hi hj, Option.bind_some, fieldA8 S P hi hj, Option.bind_some, fieldB8 S P hi hj, Option.bind_some, nmE, show m_X1_fillField_L36 n S (sF P 89 (fun _ => (-1))) (nI i) (nI j) (nI (1681 * (3 * i + j))) (nI (lfA i j)) (nI (lfB i j)) 40 = _ from g1]
  rfl
theorem solve15_L {D : DD} (hw : DW D) (S : St) {c d i : Nat} (hc : c ≤ 2) (hd : d ≤ 2) (hi : i ≤ c) : ∀ e j n P, j + e = d + 1 → e + 110 ≤ n → PI D P → (∀ i' j', i' ≤ c → j' ≤ d → (i' < i ∨ (i' = i ∧ j' < j)) → Laid8 D P i' j') →
    ∃ P', m_X1_solve_L15 n S P (nI c) (nI d) (nI i) (nI j) = some P' ∧ P'.2.2 = P.2.2 ∧ PI D P' ∧ (∀ i' j', i' ≤ i → j' ≤ d → Laid8 D P' i' j') := by
  intro e
  induction e with
  | zero =>
    intro j n P hj hn hP hl
    obtain ⟨m, rfl⟩ : ∃ m, n = m + 1 := ⟨n - 1, by omega⟩
    refine ⟨P, ?_, rfl, hP, fun i' j' q1 q2 => hl i' j' (by omega) q2 (by omega)⟩
    unfold m_X1_solve_L15
    rw [if_pos (show nI d < nI j by rw [ltN (by omega) (by omega)]; omega)]
  | succ e ih =>
    intro j n P hj hn hP hl
    obtain ⟨m, rfl⟩ : ∃ m, n = m + 1 := ⟨n - 1, by omega⟩
    obtain ⟨P1, f1, f2, f3, f4, f5, f6⟩ := field8 hw S (n := m) (show i ≤ 2 by omega) (show j ≤ 2 by omega) (by omega) hP (fun q => hl (i - 1) j (by omega) (by omega) (by omega)) (fun q => hl i (j - 1) (by omega) (by omega) (by omega))
    obtain ⟨P', g1, g2, g3, g4⟩ := ih (j + 1) m P1 (by omega) (by omega) (hP.fr f2 f4) (fun i' j' q1 q2 q3 => by
      by_cases ci : i' = i ∧ j' = j
      · rw [ci.1, ci.2]; exact f6
      · exact (hl i' j' q1 q2 (by omega)).keep (fun y z1 z2 => f5 y (by omega)))
    refine ⟨P', ?_, g2.trans f3, g3, g4⟩
    unfold m_X1_solve_L15
    rw [if_neg (show ¬ nI d < nI j by rw [ltN (by omega) (by omega)]; omega), lit32 3, if_neg (show ¬ nI 3 ≤ nI j by rw [leN (by omega) (by omega)]; omega), f1, Option.bind_some, s1]
    exact g1
theorem solve2_L {D : DD} (hw : DW D) (S : St) {c d : Nat} (hc : c ≤ 2) (hd : d ≤ 2) : ∀ e i n P, i + e = c + 1 → e + 120 ≤ n → PI D P → (∀ i' j', i' < i → j' ≤ d → Laid8 D P i' j') →
    ∃ P', m_X1_solve_L2 n S P (nI c) (nI d) (nI i) = some P' ∧ P'.2.2 = P.2.2 ∧ PI D P' ∧ (∀ i' j', i' ≤ c → j' ≤ d → Laid8 D P' i' j') := by
  intro e
  induction e with
  | zero =>
    intro i n P hi hn hP hl
    obtain ⟨m, rfl⟩ : ∃ m, n = m + 1 := ⟨n - 1, by omega⟩
    refine ⟨P, ?_, rfl, hP, fun i' j' q1 q2 => hl i' j' (by omega) q2⟩
    unfold m_X1_solve_L2
    rw [if_pos (show nI c < nI i by rw [ltN (by omega) (by omega)]; omega)]
  | succ e ih =>
    intro i n P hi hn hP hl
    obtain ⟨m, rfl⟩ : ∃ m, n = m + 1 := ⟨n - 1, by omega⟩
    obtain ⟨P1, f1, f2, f3, f4⟩ := solve15_L hw S hc hd (show i ≤ c by omega) (d + 1) 0 m P (by omega) (by omega) hP (fun i' j' q1 q2 q3 => hl i' j' (by omega) q2)
    obtain ⟨P', g1, g2, g3, g4⟩ := ih (i + 1) m P1 (by omega) (by omega) f3 (fun i' j' q1 q2 => f4 i' j' (by omega) q2)
    refine ⟨P', ?_, g2.trans f2, g3, g4⟩
    unfold m_X1_solve_L2
    rw [if_neg (show ¬ nI c < nI i by rw [ltN (by omega) (by omega)]; omega), lit32 3, if_neg (show ¬ nI 3 ≤ nI i by rw [leN (by omega) (by omega)]; omega), show m_X1_solve_L15 m S P (nI c) (nI d) (nI i) 0 = _ from f1, Option.bind_some, s1]
    exact g1
theorem valueAt8d {D : DD} (hw : DW D) (S : St) {P : St} {i j : Nat} (hi : i ≤ 2) (hj : j ≤ 2) (hP : PI D P) (hl : Laid8 D P i j) : m_X1_valueAt S P (nI i) (nI j) = some (nI (dV D i j (D.2.2 6) (D.2.2 7))) := by
  have w := hw.2.2.2
  have hcl := cl_lt (c := i) (d := j) (a := D.2.2 6) (b := D.2.2 7) hi hj (by omega) (by omega)
  have e : nI (1681 * (3 * i + j)) + nI (D.2.2 6) * 41 + nI (D.2.2 7) = nI (cl i j (D.2.2 6) (D.2.2 7)) := by
    rw [lit32 41, pk_mul, nI_add, nI_add]; unfold cl; rw [Nat.mul_comm 41]
  unfold m_X1_valueAt
  rw [fieldOf8 S P hi hj, Option.bind_some, hP.1.2.2.1, hP.1.2.2.2.1, e, ckN hcl (by omega), clN (by omega), hl _ _ (by omega) (by omega) (by omega) (by omega)]
theorem solve8d {D : DD} (hw : DW D) (S : St) {P : St} {c d n : Nat} (hc : c ≤ 2) (hd : d ≤ 2) (hn : 130 ≤ n) (hP : PI D P) :
    ∃ P', m_X1_solve n S P (nI c) (nI d) = some (nI (dV D c d (D.2.2 6) (D.2.2 7)), P') ∧ P'.2.2 = P.2.2 ∧ PI D P' ∧ (∀ i' j', i' ≤ c → j' ≤ d → Laid8 D P' i' j') := by
  obtain ⟨P', g1, g2, g3, g4⟩ := solve2_L hw S hc hd (c + 1) 0 n P (by omega) (by omega) hP (fun i' j' q => absurd q (by omega))
  refine ⟨P', ?_, g2, g3, g4⟩
  unfold m_X1_solve
  rw [show m_X1_solve_L2 n S P (nI c) (nI d) 0 = _ from g1, Option.bind_some, valueAt8d hw S hc hd g3 (g4 c d (by omega) (by omega)), Option.bind_some]
theorem chosen_L (S : St) {P : St} {w less : Nat} {x4 : Int32} {f : Nat → Nat} {x0 : Nat} (hw : w ≤ 1000000) (hf : ∀ x, x0 ≤ x → x ≤ 40 → f x ≤ 1000000 ∧ ∃ q, ((if x4 = 0 then (some (((P.1 72) * 41) + nI x)) else (some ((nI x * 41) + (P.1 73))) : Option (Int32))) = some q ∧ ∃ y, y < 15129 ∧ nI less + q = nI y ∧ P.2.1 88 y = nI (f x)) :
    ∀ e x n, x + e = 41 → x0 ≤ x → e + 1 ≤ n → m_X1_chosen_L77 n S P (nI w) x4 (nI less) (nI x) = some (nI (fs f w e x)) := by
  intro e
  induction e with
  | zero =>
    intro x n hx h0 hn
    obtain ⟨m, rfl⟩ : ∃ m, n = m + 1 := ⟨n - 1, by omega⟩
    unfold m_X1_chosen_L77
    rw [lit32 40, if_pos (show nI 40 < nI x by rw [ltN (by omega) (by omega)]; omega)]
    rfl
  | succ e ih =>
    intro x n hx h0 hn
    obtain ⟨m, rfl⟩ : ∃ m, n = m + 1 := ⟨n - 1, by omega⟩
    obtain ⟨hfx, q, q1, y, q2, q3, q4⟩ := hf x h0 (by omega)
    unfold m_X1_chosen_L77
    rw [lit32 40, if_neg (show ¬ nI 40 < nI x by rw [ltN (by omega) (by omega)]; omega), q1, Option.bind_some, q3, ckN q2 (by omega), clN (by omega), q4, ifeqN (by omega) (by omega), s1, ih (x + 1) m (by omega) (by omega) (by omega)]
    show _ = some (nI (if f x = w then x else fs f w e (x + 1)))
    split <;> rfl
theorem chosen8d {D : DD} (hw : DW D) (S : St) {P : St} {c d n : Nat} (hc : c ≤ 2) (hd : d ≤ 2) (hn : 60 ≤ n) (hP : PI D P) (hl : ∀ i' j', i' ≤ c → j' ≤ d → Laid8 D P i' j') : m_X1_chosen n S P (nI c) (nI d) = some (nI (dC D c d (D.2.2 6) (D.2.2 7))) := by
  have w := hw.2.2.2
  have htv := tV_le hw (c := c) (d := d) (a := D.2.2 6) (b := D.2.2 7) (by omega) (by omega)
  have hdv := dV_le hw (c := c) (d := d) (a := D.2.2 6) (b := D.2.2 7) (by omega) (by omega)
  have hdq := dV_eq D c d (D.2.2 6) (D.2.2 7)
  have h72 := hP.1.2.2.1
  have h73 := hP.1.2.2.2.1
  unfold m_X1_chosen
  rw [valueAt8d hw S hc hd hP (hl c d (by omega) (by omega)), Option.bind_some, h72, h73, try8d S hw hP (by omega) (by omega) (by omega) (by omega) hc hd, Option.bind_some, ifeqN (by omega) (by omega)]
  by_cases cv : dV D c d (D.2.2 6) (D.2.2 7) = tV D c d (D.2.2 6) (D.2.2 7)
  · rw [if_pos cv]
    unfold dC
    rw [hdq] at cv
    by_cases cf : fst D (D.2.2 6) (D.2.2 7) = true
    · rw [if_pos cf] at cv ⊢
      by_cases c0 : c = 0
      · rw [if_pos c0]; rfl
      · rw [if_neg c0] at cv ⊢
        rw [xc_fs, if_pos cv]; rfl
    · rw [if_neg cf] at cv ⊢
      by_cases c0 : d = 0
      · rw [if_pos c0]; rfl
      · rw [if_neg c0] at cv ⊢
        rw [xc_fs, if_pos cv]; rfl
  · rw [if_neg cv]
    unfold m_X1_firstCalled
    rw [h72, h73, first8d S hw hP.1 (by omega) (by omega), Option.bind_some]
    unfold dC
    rw [hdq] at cv
    by_cases cf : fst D (D.2.2 6) (D.2.2 7) = true
    · rw [if_pos cf] at cv hdq ⊢
      rw [if_pos cf, ckb1, Option.bind_some, if_neg (show ¬ (1 : Int32) = 0 by decide), if_neg (show ¬ (1 : Int32) = 0 by decide), fieldA8 S P hc hd, Option.bind_some, Option.bind_some, Option.bind_some, s1]
      by_cases c0 : c = 0
      · rw [if_pos c0] at cv; exact absurd rfl cv
      · rw [if_neg c0] at cv hdq ⊢
        rw [xc_fs, if_neg cv, ← hdq]
        refine chosen_L S (x0 := D.2.2 6 + 1) hdv (fun x q1 q2 => ⟨dV_le hw q2 (by omega), _, if_neg (show ¬ (1 : Int32) = 0 by decide), cl (c - 1) d x (D.2.2 7), cl_lt (by omega) hd q2 (by omega), ?_, hl (c - 1) d (by omega) (by omega) x (D.2.2 7) (by omega) q2 (by omega) (by omega)⟩) (40 - D.2.2 6) (D.2.2 6 + 1) n (by omega) (by omega) (by omega)
        rw [h73, lit32 41, pk_mul, nI_add, nI_add]
        unfold lfA cl
        rw [if_neg c0]
        congr 1
        omega
    · rw [if_neg cf] at cv hdq ⊢
      rw [if_neg cf, ckb0, Option.bind_some, if_pos rfl, if_pos rfl, fieldB8 S P hc hd, Option.bind_some, Option.bind_some, Option.bind_some, s1]
      by_cases c0 : d = 0
      · rw [if_pos c0] at cv; exact absurd rfl cv
      · rw [if_neg c0] at cv hdq ⊢
        rw [xc_fs, if_neg cv, ← hdq]
        refine chosen_L S (x0 := D.2.2 7 + 1) hdv (fun x q1 q2 => ⟨dV_le hw (by omega) q2, _, if_pos rfl, cl c (d - 1) (D.2.2 6) x, cl_lt hc (by omega) (by omega) q2, ?_, hl c (d - 1) (by omega) (by omega) (D.2.2 6) x (by omega) (by omega) (by omega) q2⟩) (40 - D.2.2 7) (D.2.2 7 + 1) n (by omega) (by omega) (by omega)
        rw [h72, lit32 41, pk_mul, nI_add, nI_add]
        unfold lfB cl
        rw [if_neg c0]
        congr 1
        omega
