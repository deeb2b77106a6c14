/-! ===== layer B: enters ===== -/
def FpS (k t : Nat) (S S' : St) : Prop := (∀ i, i ≠ 2 → i ≠ 3 → S'.1 i = S.1 i) ∧ (∀ a, a ≠ 6 + 3 * k → S'.2.1 a = S.2.1 a) ∧ S'.2.2 = S.2.2 ∧ ∀ y, (y < 3 * t ∨ 3 * t + 3 ≤ y) → S'.2.1 (6 + 3 * k) y = S.2.1 (6 + 3 * k) y
def FpT (t : Nat) (T T' : St) : Prop := (∀ i, i ≠ 19 → i ≠ 21 → T'.1 i = T.1 i) ∧ (∀ a, a ≠ 27 → T'.2.1 a = T.2.1 a) ∧ T'.2.2 = T.2.2 ∧ ∀ y, (y < 3 * t ∨ 3 * t + 3 ≤ y) → T'.2.1 27 y = T.2.1 27 y
theorem FpS.trans {k t : Nat} {S S' S2 : St} (h : FpS k t S S') (g : FpS k t S' S2) : FpS k t S S2 := ⟨fun i a b => (g.1 i a b).trans (h.1 i a b), fun i a => (g.2.1 i a).trans (h.2.1 i a), g.2.2.1.trans h.2.2.1, fun y hy => (g.2.2.2 y hy).trans (h.2.2.2 y hy)⟩
theorem FpT.trans {t : Nat} {S S' S2 : St} (h : FpT t S S') (g : FpT t S' S2) : FpT t S S2 := ⟨fun i a b => (g.1 i a b).trans (h.1 i a b), fun i a => (g.2.1 i a).trans (h.2.1 i a), g.2.2.1.trans h.2.2.1, fun y hy => (g.2.2.2 y hy).trans (h.2.2.2 y hy)⟩
theorem P23.fp {k t : Nat} {S S' : St} (h : P23 S S') : FpS k t S S' := ⟨h.1, fun a _ => by rw [h.2], by rw [h.2], fun y _ => by rw [h.2]⟩
theorem Q19.fp {t : Nat} {T T' : St} (h : Q19 T T') : FpT t T T' := ⟨h.1, fun a _ => by rw [h.2], by rw [h.2], fun y _ => by rw [h.2]⟩
theorem FpS.fr {k t : Nat} {S S' : St} (h : FpS k t S S') : FrP k S S' := ⟨fun i a b _ _ => h.1 i a b, fun a _ b => h.2.1 a b, h.2.2.1⟩
theorem FpT.fr {t : Nat} {T T' : St} (h : FpT t T T') : FrQ T T' := ⟨fun i a b _ _ => h.1 i a b, fun a b => h.2.1 a (by omega), h.2.2.1⟩
theorem FpS.put {k t w : Nat} {S S' : St} (h : FpS k t S S') (hw : w < 3) (v : Int32) : FpS k t S (sA S' (6 + 3 * k) (3 * t + w) v) := ⟨h.1, fun a ha => (sA_row ha).trans (h.2.1 a ha), h.2.2.1, fun y hy => (sA_ne (by omega)).trans (h.2.2.2 y hy)⟩
theorem FpT.put {t w : Nat} {T T' : St} (h : FpT t T T') (hw : w < 3) (v : Int32) : FpT t T (sA T' 27 (3 * t + w) v) := ⟨h.1, fun a ha => (sA_row ha).trans (h.2.1 a ha), h.2.2.1, fun y hy => (sA_ne (by omega)).trans (h.2.2.2 y hy)⟩
/-- one of a plan's numbers: a sign, a number, its place -/
def Pn (n : Nat) (S : St) (k y : Nat) (c lo hi : Int32) : Option St := (m_X7_readSign S c).bind (fun r => (m_X7_readNumber n r lo hi).bind (fun q => some (sA q.2 (6 + 3 * k) y q.1)))
def Pt (n : Nat) (T : St) (y : Nat) (c lo hi : Int32) : Option (Int32 × St) := (m_X9_takes T c).bind (fun r => if r.1 = 0 then some (0, r.2) else (m_X9_takesNumber n r.2 lo hi).bind (fun q => if q.1 = 0 then some (0, q.2) else some (1, sA q.2 27 y (q.2.1 21))))
theorem pn_bad {n k y p : Nat} {S : St} {c lo hi : Int32} (h : S.1 3 = nI p) (hp : p ≤ 240) : Pn n S k y c lo hi = some (sA S (6 + 3 * k) y 0) := by
  unfold Pn
  rw [bad_sign h hp]
  simp only [Option.bind_some]
  rw [bad_num h hp]
  rfl
theorem pn_same {len at' k t w c lo hi n n' : Nat} {S T : St} (hw : w < 3) (hc : c < 48 ∨ 57 < c) (hc2 : c < 256) (hhi : hi ≤ 1000) (hlo : lo ≤ 100) (hn : 5 ≤ n) (hn' : 5 ≤ n') (hG : GP len at' S T) :
    ∃ S' T', Pn n S k (3 * t + w) (nI c) (nI lo) (nI hi) = some S' ∧ FpS k t S S' ∧ FpT t T T' ∧
      ((∃ at2 v, Pt n' T (3 * t + w) (nI c) (nI lo) (nI hi) = some (1, T') ∧ GP len at2 S' T' ∧ lo ≤ v ∧ v ≤ hi ∧ (∀ y, S'.2.1 (6 + 3 * k) y = if y = 3 * t + w then nI v else S.2.1 (6 + 3 * k) y) ∧ (∀ y, T'.2.1 27 y = if y = 3 * t + w then nI v else T.2.1 27 y)) ∨
       (∃ p, Pt n' T (3 * t + w) (nI c) (nI lo) (nI hi) = some (0, T') ∧ DP len p S' ∧ T'.1 19 = nI p ∧ p ≤ 240) ∨
       (∃ p, Pt n' T (3 * t + w) (nI c) (nI lo) (nI hi) = some (0, T') ∧ S'.1 3 = nI p ∧ T'.1 19 = nI p ∧ p ≤ 240)) := by
  unfold Pn Pt
  have hb : at' ≤ 240 := by have := hG.2.2.2.2.2.1; have := hG.2.2.2.2.2.2.1; omega
  rcases sign_same hG (nI c) with ⟨S2, T2, q1, q2, q3, q4, q5, q6⟩ | ⟨S2, q1, q2, q3, q4⟩
  · rw [q1, q2]
    simp only [Option.bind_some, b10, if_false]
    rcases tnum_same (lo := lo) (hi := hi) (n := n) (n' := n') q3 hhi hlo hn hn' with ⟨S1, T1, at2, v, r1, r2, r3, r4, r5, r6, r7, r8, r9⟩ | ⟨S1, T1, v, p, r1, r2, r3, r4, r5, r6, r7, r8, r9⟩ | ⟨S1, T1, v, p, r1, r2, r3, r4, r5, r6, r7⟩
    · rw [r1, r2]
      simp only [Option.bind_some, b10, if_false]
      rw [r4]
      refine ⟨_, _, rfl, (q4.fp.trans r7.fp).put hw _, (q5.fp.trans r8.fp).put hw _, Or.inl ⟨at2, v, rfl, ?_, r5, r6, fun y => ?_, fun y => ?_⟩⟩
      · obtain ⟨k1, k2, k3, k4, k5, k6, k7, k8⟩ := r3
        exact ⟨k1, k2, k3, k4, k5, k6, k7, fun j hj => by rw [sA_row (by omega), sA_row (by omega)]; exact k8 j hj⟩
      · rw [sA_21, if_pos rfl, r7.2, q4.2]
      · rw [sA_21, if_pos rfl, r8.2, q5.2]
    · rw [r1, r2]
      simp only [Option.bind_some, b00, if_true]
      refine ⟨_, _, rfl, (q4.fp.trans r8.fp).put hw _, q5.fp.trans r9.fp, Or.inr (Or.inl ⟨p, rfl, ?_, r4, r5⟩)⟩
      obtain ⟨d1, d2, d3, d4, d5, d6⟩ := r3
      exact ⟨d1, d2, d3, d4, d5, by rw [sA_row (by omega)]; exact d6⟩
    · rw [r1, r2]
      simp only [Option.bind_some, b00, if_true]
      exact ⟨_, _, rfl, (q4.fp.trans r6.fp).put hw _, q5.fp.trans r7.fp, Or.inr (Or.inr ⟨p, rfl, r3, r4, r5⟩)⟩
  · rw [q1, q2]
    simp only [Option.bind_some, b00, if_true]
    rw [bad_num q3 hb]
    simp only [Option.bind_some]
    exact ⟨_, _, rfl, q4.fp.put hw _, (Q19.rfl T).fp, Or.inr (Or.inr ⟨at', rfl, q3, hG.2.2.2.2.1, hb⟩)⟩
theorem pn_dead {n k t w c lo hi p len : Nat} {S : St} (hw : w < 3) (hc : c < 48 ∨ 57 < c) (hc2 : c < 256) (h : DP len p S) : ∃ S', Pn n S k (3 * t + w) (nI c) (nI lo) (nI hi) = some S' ∧ S'.1 3 = nI p ∧ FpS k t S S' := by
  have hp : p ≤ 240 := by have := h.2.2.2.1; have := h.2.2.2.2.1; omega
  obtain ⟨S2, q1, q3, q4⟩ := dead_sign h hc hc2
  unfold Pn
  rw [q1]
  simp only [Option.bind_some]
  rw [bad_num q3 hp]
  exact ⟨_, rfl, q3, q4.fp.put hw _⟩
/-- a plan -/
def Pln (n : Nat) (S : St) (k t : Nat) : Option St := (Pn n S k (3 * t + 0) (nI 47) (nI 1) (nI 40)).bind (fun S1 => (Pn n S1 k (3 * t + 1) (nI 43) (nI 1) (nI 9)).bind (fun S2 => Pn n S2 k (3 * t + 2) (nI 43) (nI 0) (nI 9)))
theorem pln_bad {n k t p : Nat} {S : St} (h : S.1 3 = nI p) (hp : p ≤ 240) : ∃ S', Pln n S k t = some S' ∧ S'.1 3 = nI p ∧ FpS k t S S' := by
  unfold Pln
  rw [pn_bad h hp]
  simp only [Option.bind_some]
  rw [pn_bad (show (sA S (6 + 3 * k) (3 * t + 0) 0).1 3 = nI p from h) hp]
  simp only [Option.bind_some]
  rw [pn_bad (show (sA (sA S (6 + 3 * k) (3 * t + 0) 0) (6 + 3 * k) (3 * t + 1) 0).1 3 = nI p from h) hp]
  exact ⟨_, rfl, h, (((P23.rfl S).fp.put (by omega) _).put (by omega) _).put (by omega) _⟩
theorem pln_dead {n k t p len : Nat} {S : St} (h : DP len p S) : ∃ S', Pln n S k t = some S' ∧ S'.1 3 = nI p ∧ FpS k t S S' := by
  have hp : p ≤ 240 := by have := h.2.2.2.1; have := h.2.2.2.2.1; omega
  obtain ⟨S1, a1, a2, a3⟩ := pn_dead (n := n) (k := k) (t := t) (w := 0) (c := 47) (lo := 1) (hi := 40) (by omega) (by omega) (by omega) h
  unfold Pln
  rw [a1]
  simp only [Option.bind_some]
  rw [pn_bad a2 hp]
  simp only [Option.bind_some]
  rw [pn_bad (show (sA S1 (6 + 3 * k) (3 * t + 1) 0).1 3 = nI p from a2) hp]
  exact ⟨_, rfl, a2, (a3.put (by omega) _).put (by omega) _⟩
def PlK (k t : Nat) (S T : St) : Prop := (∀ w, w < 3 → S.2.1 (6 + 3 * k) (3 * t + w) = T.2.1 27 (3 * t + w)) ∧ Rg (T.2.1 27 (3 * t)) 1 40 ∧ Rg (T.2.1 27 (3 * t + 1)) 1 9 ∧ Rg (T.2.1 27 (3 * t + 2)) 0 9
theorem plan9 {n t : Nat} {T : St} (ht : t < 3) : m_X9_takesPlan n T (nI t) = (Pt n T (3 * t + 0) (nI 47) (nI 1) (nI 40)).bind (fun a => if a.1 = 0 then some (0, a.2) else (Pt n a.2 (3 * t + 1) (nI 43) (nI 1) (nI 9)).bind (fun b => if b.1 = 0 then some (0, b.2) else Pt n b.2 (3 * t + 2) (nI 43) (nI 0) (nI 9))) := by
  have i0 : (3 : Int32) * nI t = nI (3 * t) := by rw [lit32 3, pk_mul]
  unfold m_X9_takesPlan Pt
  simp only [nmE, i0, s1, s2]
  rw [show (47 : Int32) = nI 47 from rfl, show (43 : Int32) = nI 43 from rfl, show (40 : Int32) = nI 40 from rfl, show (9 : Int32) = nI 9 from rfl]
  have tn1 : ∀ (X : St) (a : Int32), m_X9_takesNumber n X 1 a = m_X9_takesNumber n X (nI 1) a := fun _ _ => rfl
  simp only [tn1]
  simp only [ckN (show 3 * t < 9 by omega) (show 9 < 2147483648 by omega), ckN (show 3 * t + 1 < 9 by omega) (show 9 < 2147483648 by omega), ckN (show 3 * t + 2 < 9 by omega) (show 9 < 2147483648 by omega), clN (show 3 * t < 2147483648 by omega), clN (show 3 * t + 1 < 2147483648 by omega), clN (show 3 * t + 2 < 2147483648 by omega), Nat.add_zero]
  rcases m_X9_takes T (nI 47) with _ | ⟨a, A⟩
  · rfl
  simp only [Option.bind_some]
  by_cases c0 : a = 0
  · simp only [c0, if_true, Option.bind_some]
  simp only [c0, if_false]
  rcases m_X9_takesNumber n A (nI 1) (nI 40) with _ | ⟨b, B⟩
  · rfl
  simp only [Option.bind_some]
  by_cases c1 : b = 0
  · simp only [c1, if_true, Option.bind_some]
  simp only [c1, if_false, Option.bind_some, b10]
  rcases m_X9_takes (sA B 27 (3 * t) (B.1 21)) (nI 43) with _ | ⟨c, C⟩
  · rfl
  simp only [Option.bind_some]
  by_cases c2 : c = 0
  · simp only [c2, if_true, Option.bind_some]
  simp only [c2, if_false]
  rcases m_X9_takesNumber n C (nI 1) (nI 9) with _ | ⟨d, D⟩
  · rfl
  simp only [Option.bind_some]
  by_cases c3 : d = 0
  · simp only [c3, if_true, Option.bind_some]
  simp only [c3, if_false, Option.bind_some, b10]
  rfl
theorem plan_same {len at' k t n n' : Nat} {S T : St} (ht : t < 3) (hn : 5 ≤ n) (hn' : 5 ≤ n') (hG : GP len at' S T) :
    ∃ S' T', Pln n S k t = some S' ∧ FpS k t S S' ∧ FpT t T T' ∧
      ((∃ at2, m_X9_takesPlan n' T (nI t) = some (1, T') ∧ GP len at2 S' T' ∧ PlK k t S' T') ∨
       (∃ p, m_X9_takesPlan n' T (nI t) = some (0, T') ∧ DP len p S' ∧ T'.1 19 = nI p ∧ p ≤ 240) ∨
       (∃ p, m_X9_takesPlan n' T (nI t) = some (0, T') ∧ S'.1 3 = nI p ∧ T'.1 19 = nI p ∧ p ≤ 240)) := by
  rw [plan9 ht]
  unfold Pln
  obtain ⟨S1, T1, a1, a2, a3, a4⟩ := pn_same (k := k) (t := t) (w := 0) (c := 47) (lo := 1) (hi := 40) (n := n) (n' := n') (by omega) (by omega) (by omega) (by omega) (by omega) hn hn' hG
  rw [a1]
  simp only [Option.bind_some]
  rcases a4 with ⟨at2, v, q1, q2, q3, q4, q5, q6⟩ | ⟨p, q1, q2, q3, q4⟩ | ⟨p, q1, q2, q3, q4⟩
  · rw [q1]
    simp only [Option.bind_some, b10, if_false]
    obtain ⟨S2, T2, b1, b2, b3, b4⟩ := pn_same (k := k) (t := t) (w := 1) (c := 43) (lo := 1) (hi := 9) (n := n) (n' := n') (by omega) (by omega) (by omega) (by omega) (by omega) hn hn' q2
    rw [b1]
    simp only [Option.bind_some]
    rcases b4 with ⟨at3, v2, u1, u2, u3, u4, u5, u6⟩ | ⟨p, u1, u2, u3, u4⟩ | ⟨p, u1, u2, u3, u4⟩
    · rw [u1]
      simp only [Option.bind_some, b10, if_false]
      obtain ⟨S3, T3, c1, c2, c3, c4⟩ := pn_same (k := k) (t := t) (w := 2) (c := 43) (lo := 0) (hi := 9) (n := n) (n' := n') (by omega) (by omega) (by omega) (by omega) (by omega) hn hn' u2
      refine ⟨S3, T3, c1, (a2.trans b2).trans c2, (a3.trans b3).trans c3, ?_⟩
      rcases c4 with ⟨at4, v3, w1, w2, w3, w4, w5, w6⟩ | ⟨p, w1, w2, w3, w4⟩ | ⟨p, w1, w2, w3, w4⟩
      · refine Or.inl ⟨at4, w1, w2, ?_, ?_, ?_, ?_⟩
        · intro w hw
          rw [w5, w6, u5, u6, q5, q6]
          by_cases z2 : 3 * t + w = 3 * t + 2
          · rw [if_pos z2, if_pos z2]
          rw [if_neg z2, if_neg z2]
          by_cases z1 : 3 * t + w = 3 * t + 1
          · rw [if_pos z1, if_pos z1]
          rw [if_neg z1, if_neg z1, if_pos (by omega), if_pos (by omega)]
        · rw [w6, u6, q6, if_neg (by omega), if_neg (by omega), if_pos (by omega)]
          unfold Rg; rw [tiN (by omega)]; omega
        · rw [w6, u6, if_neg (by omega), if_pos (by omega)]
          unfold Rg; rw [tiN (by omega)]; omega
        · rw [w6, if_pos (by omega)]
          unfold Rg; rw [tiN (by omega)]; omega
      · exact Or.inr (Or.inl ⟨p, w1, w2, w3, w4⟩)
      · exact Or.inr (Or.inr ⟨p, w1, w2, w3, w4⟩)
    · rw [u1]
      simp only [Option.bind_some, b00, if_true]
      obtain ⟨S3, c1, c2, c3⟩ := pn_dead (n := n) (k := k) (t := t) (w := 2) (c := 43) (lo := 0) (hi := 9) (by omega) (by omega) (by omega) u2
      exact ⟨S3, T2, c1, (a2.trans b2).trans c3, a3.trans b3, Or.inr (Or.inr ⟨p, rfl, c2, u3, u4⟩)⟩
    · rw [u1]
      simp only [Option.bind_some, b00, if_true]
      rw [pn_bad u2 u4]
      exact ⟨_, T2, rfl, (a2.trans b2).put (by omega) _, a3.trans b3, Or.inr (Or.inr ⟨p, rfl, u2, u3, u4⟩)⟩
  · rw [q1]
    simp only [Option.bind_some, b00, if_true]
    obtain ⟨S2, c1, c2, c3⟩ := pn_dead (n := n) (k := k) (t := t) (w := 1) (c := 43) (lo := 1) (hi := 9) (by omega) (by omega) (by omega) q2
    rw [c1]
    simp only [Option.bind_some]
    rw [pn_bad c2 q4]
    exact ⟨_, T1, rfl, (a2.trans c3).put (by omega) _, a3, Or.inr (Or.inr ⟨p, rfl, c2, q3, q4⟩)⟩
  · rw [q1]
    simp only [Option.bind_some, b00, if_true]
    rw [pn_bad q2 q4]
    simp only [Option.bind_some]
    rw [pn_bad (show (sA S1 (6 + 3 * k) (3 * t + 1) 0).1 3 = nI p from q2) q4]
    exact ⟨_, T1, rfl, (a2.put (by omega) _).put (by omega) _, a3, Or.inr (Or.inr ⟨p, rfl, q2, q3, q4⟩)⟩
theorem lifter8 {n k t : Nat} {S : St} (ht : t < 3) (h : S.1 3 = -1) : m_X7_readLifter_L104 (n + 1) S k (nI t) = (m_X7_readSign S 59).bind (fun r30 => (m_X7_readTable n r30 k (nI t)).bind (fun r32 => (Pln n r32 k t).bind (fun S53 => m_X7_readLifter_L104 n S53 k (nI (t + 1))))) := by
  conv => lhs; unfold m_X7_readLifter_L104
  unfold Pln Pn
  simp only [nmE]
  rw [lit32 3, if_neg (show ¬ nI 3 ≤ nI t by rw [leN (by omega) (by omega)]; omega), h, if_neg (show ¬ (0 : Int32) ≤ -1 by decide), ← lit32 3]
  simp only [m3, s1, s2]
  simp only [ckN (show 3 * t < 9 by omega) (show 9 < 2147483648 by omega), ckN (show 3 * t + 1 < 9 by omega) (show 9 < 2147483648 by omega), ckN (show 3 * t + 2 < 9 by omega) (show 9 < 2147483648 by omega), clN (show 3 * t < 2147483648 by omega), clN (show 3 * t + 1 < 2147483648 by omega), clN (show 3 * t + 2 < 2147483648 by omega), Nat.add_zero, Option.bind_assoc, Option.bind_some]
  rfl
/-- what is read of the lifter behind the last -/
def AllK (k t : Nat) (S T : St) : Prop := ∀ u, u < t → TabK k u S T ∧ PlK k u S T
theorem TabK.fp {k u t : Nat} {S T S' T' : St} (h : TabK k u S T) (f : FpS k t S S') (g : FpT t T T') : TabK k u S' T' := by
  unfold TabK
  rw [f.2.1 (5 + 3 * k) (by omega), g.2.1 24 (by omega), g.2.1 25 (by omega), g.2.1 26 (by omega)]
  exact h
theorem TabK.ft {k u t : Nat} {S T S' T' : St} (h : TabK k u S T) (hut : u ≠ t) (f : FtS k t S S') (g : FtT t T T') : TabK k u S' T' := by
  obtain ⟨np, h1, h2, h3, h4, h5⟩ := h
  have e : ∀ i, i < 6 → T'.2.1 25 (6 * u + i) = T.2.1 25 (6 * u + i) ∧ T'.2.1 26 (6 * u + i) = T.2.1 26 (6 * u + i) := fun i hi => g.2.2.2.2 _ (by omega)
  refine ⟨np, h1, h2, (g.2.2.2.1 u hut).trans h3, ⟨fun j hj => ?_, fun j hj => ?_⟩, fun x hx1 hx2 => ?_⟩
  · rw [(e j (by omega)).1, (e j (by omega)).2]; exact h4.1 j hj
  · rw [show 6 * u + j + 1 = 6 * u + (j + 1) by omega, (e j (by omega)).1, (e j (by omega)).2, (e (j + 1) (by omega)).1, (e (j + 1) (by omega)).2]; exact h4.2 j hj
  · rw [f.2.2.2 _ (by omega), h5 x hx1 hx2]
    exact (tabO_congr h1 (fun i hi => e i (by omega))).symm
theorem PlK.ft {k u t : Nat} {S T S' T' : St} (h : PlK k u S T) (f : FtS k t S S') (g : FtT t T T') : PlK k u S' T' := by
  unfold PlK
  rw [f.2.1 (6 + 3 * k) (by omega), g.2.1 27 (by omega)]
  exact h
theorem PlK.fp {k u t : Nat} {S T S' T' : St} (h : PlK k u S T) (hut : u ≠ t) (f : FpS k t S S') (g : FpT t T T') : PlK k u S' T' := by
  obtain ⟨h1, h2, h3, h4⟩ := h
  have e : ∀ w, w < 3 → T'.2.1 27 (3 * u + w) = T.2.1 27 (3 * u + w) := fun w hw => g.2.2.2 _ (by omega)
  refine ⟨fun w hw => ?_, ?_, ?_, ?_⟩
  · rw [e w hw, f.2.2.2 _ (by omega)]; exact h1 w hw
  · rw [show 3 * u = 3 * u + 0 from rfl, e 0 (by omega)]; exact h2
  · rw [e 1 (by omega)]; exact h3
  · rw [e 2 (by omega)]; exact h4
/-- the frames of all that is read of tables and plans -/
def FaS (k : Nat) (S S' : St) : Prop := (∀ i, i ≠ 2 → i ≠ 3 → S'.1 i = S.1 i) ∧ (∀ a, a ≠ 5 + 3 * k → a ≠ 6 + 3 * k → S'.2.1 a = S.2.1 a) ∧ S'.2.2 = S.2.2
def FaT (T T' : St) : Prop := (∀ i, i ≠ 19 → i ≠ 21 → T'.1 i = T.1 i) ∧ (∀ a, a < 24 ∨ 27 < a → T'.2.1 a = T.2.1 a) ∧ T'.2.2 = T.2.2
theorem FaS.rfl {k : Nat} (S : St) : FaS k S S := ⟨fun _ _ _ => Eq.refl _, fun _ _ _ => Eq.refl _, Eq.refl _⟩
theorem FaT.rfl (T : St) : FaT T T := ⟨fun _ _ _ => Eq.refl _, fun _ _ => Eq.refl _, Eq.refl _⟩
theorem FaS.trans {k : Nat} {S S' S2 : St} (h : FaS k S S') (g : FaS k S' S2) : FaS k S S2 := ⟨fun i a b => (g.1 i a b).trans (h.1 i a b), fun i a b => (g.2.1 i a b).trans (h.2.1 i a b), g.2.2.trans h.2.2⟩
theorem FaT.trans {S S' S2 : St} (h : FaT S S') (g : FaT S' S2) : FaT S S2 := ⟨fun i a b => (g.1 i a b).trans (h.1 i a b), fun i a => (g.2.1 i a).trans (h.2.1 i a), g.2.2.trans h.2.2⟩
theorem P23.fa {k : Nat} {S S' : St} (h : P23 S S') : FaS k S S' := ⟨h.1, fun a _ _ => by rw [h.2], by rw [h.2]⟩
theorem Q19.fa {T T' : St} (h : Q19 T T') : FaT T T' := ⟨h.1, fun a _ => by rw [h.2], by rw [h.2]⟩
theorem FtS.fa {k t : Nat} {S S' : St} (h : FtS k t S S') : FaS k S S' := ⟨h.1, fun a b _ => h.2.1 a b, h.2.2.1⟩
theorem FtT.fa {t : Nat} {T T' : St} (h : FtT t T T') : FaT T T' := ⟨h.1, fun a b => h.2.1 a (by omega), h.2.2.1⟩
theorem FpS.fa {k t : Nat} {S S' : St} (h : FpS k t S S') : FaS k S S' := ⟨h.1, fun a _ b => h.2.1 a b, h.2.2.1⟩
theorem FpT.fa {t : Nat} {T T' : St} (h : FpT t T T') : FaT T T' := ⟨h.1, fun a b => h.2.1 a (by omega), h.2.2.1⟩
theorem stop104 {n k t p : Nat} {S : St} (h : S.1 3 = nI p) (hp : p ≤ 240) : m_X7_readLifter_L104 (n + 1) S k (nI t) = some S := by
  unfold m_X7_readLifter_L104
  rw [h, if_pos (show (0 : Int32) ≤ nI p by rw [show (0 : Int32) = nI 0 from rfl, leN (by omega) (by omega)]; omega)]
  split <;> rfl
theorem life_same {len k : Nat} : ∀ d t n n' at' S T, t + d = 3 → d + 120 ≤ n → d + 120 ≤ n' → GP len at' S T → AllK k t S T →
    ∃ S' T', m_X7_readLifter_L104 n S k (nI t) = some S' ∧ FaS k S S' ∧ FaT T T' ∧
      ((m_X9_takesLifter_L49 n' T (nI t) = some (1, T') ∧ GP len len S' T' ∧ AllK k 3 S' T') ∨
       (∃ p, m_X9_takesLifter_L49 n' T (nI t) = some (0, T') ∧ T'.1 19 = nI p ∧ p < len ∧ len ≤ 240 ∧ S'.1 1 = nI len ∧ S'.1 2 = nI p ∧ S'.1 3 = -1) ∨
       (∃ p, m_X9_takesLifter_L49 n' T (nI t) = some (0, T') ∧ S'.1 3 = nI p ∧ T'.1 19 = nI p ∧ p ≤ 240)) := by
  intro d
  induction d with
  | zero =>
    intro t n n' at' S T htd hn hn' hG hA
    obtain ⟨m, rfl⟩ : ∃ m, n = m + 1 := ⟨n - 1, by omega⟩
    obtain ⟨m', rfl⟩ : ∃ m, n' = m + 1 := ⟨n' - 1, by omega⟩
    have : t = 3 := by omega
    subst this
    obtain ⟨k1, k2, k3, k4, k5, k6, k7, k8⟩ := id hG
    refine ⟨S, T, ?_, FaS.rfl S, FaT.rfl T, ?_⟩
    · unfold m_X7_readLifter_L104
      rw [if_pos (by decide)]
    · unfold m_X9_takesLifter_L49
      rw [if_pos (by decide), k4, k5, ifeqN (by omega) (by omega)]
      by_cases c : at' = len
      · rw [if_pos c]
        subst c
        exact Or.inl ⟨rfl, hG, hA⟩
      · rw [if_neg c]
        exact Or.inr (Or.inl ⟨at', rfl, rfl, by omega, k7, k1, k2, k3⟩)
  | succ d ih =>
    intro t n n' at' S T htd hn hn' hG hA
    obtain ⟨m, rfl⟩ : ∃ m, n = m + 1 := ⟨n - 1, by omega⟩
    obtain ⟨m', rfl⟩ : ∃ m, n' = m + 1 := ⟨n' - 1, by omega⟩
    have ht : t < 3 := by omega
    have hb : at' ≤ 240 := by have := hG.2.2.2.2.2.1; have := hG.2.2.2.2.2.2.1; omega
    obtain ⟨m2, rfl⟩ : ∃ q, m = q + 1 := ⟨m - 1, by omega⟩
    rw [lifter8 ht hG.2.2.1]
    conv => congr; ext S'; congr; ext T'; rw [show m_X9_takesLifter_L49 (m' + 1) T (nI t) = (m_X9_takes T 59).bind (fun r16 => if r16.1 = 0 then (some (0, r16.2)) else ((m_X9_takesTable m' r16.2 (nI t)).bind (fun r19 => if r19.1 = 0 then (some (0, r19.2)) else ((m_X9_takesPlan m' r19.2 (nI t)).bind (fun r22 => if r22.1 = 0 then (some (0, r22.2)) else (m_X9_takesLifter_L49 m' r22.2 (nI t + 1))))))) from by
      conv => lhs; unfold m_X9_takesLifter_L49
      rw [lit32 3, if_neg (show ¬ nI 3 ≤ nI t by rw [leN (by omega) (by omega)]; omega)]]
    rcases sign_same hG 59 with ⟨S1, T1, q1, q2, q3, q4, q5, q6⟩ | ⟨S1, q1, q2, q3, q4⟩
    · rw [q1, q2]
      simp only [Option.bind_some, b10, if_false]
      obtain ⟨S2, T2, a1, a2, a3, a4⟩ := table_same (k := k) (n := m2 + 1) (n' := m') ht (by omega) (by omega) q3
      rw [a1]
      simp only [Option.bind_some]
      rcases a4 with ⟨at2, u1, u2, u3⟩ | ⟨p, u1, u2, u3, u4⟩ | ⟨p, u1, u2, u3, u4⟩
      · rw [u1]
        simp only [Option.bind_some, b10, if_false]
        obtain ⟨S3, T3, b1, b2, b3, b4⟩ := plan_same (k := k) (n := m2 + 1) (n' := m') ht (by omega) (by omega) u2
        rw [b1]
        simp only [Option.bind_some]
        have fS : FaS k S S3 := (q4.fa.trans a2.fa).trans b2.fa
        have fT : FaT T T3 := (q5.fa.trans a3.fa).trans b3.fa
        rcases b4 with ⟨at3, w1, w2, w3⟩ | ⟨p, w1, w2, w3, w4⟩ | ⟨p, w1, w2, w3, w4⟩
        · rw [w1]
          simp only [Option.bind_some, b10, if_false]
          rw [s1]
          obtain ⟨S', T', z1, z2, z3, z4⟩ := ih (t + 1) (m2 + 1) m' at3 S3 T3 (by omega) (by omega) (by omega) w2 (fun u hu => by
            by_cases c : u = t
            · subst c
              exact ⟨u3.fp b2 b3, w3⟩
            · obtain ⟨h1, h2⟩ := hA u (by omega)
              have h1' : TabK k u S1 T1 := by
                unfold TabK; rw [q4.2, q5.2]; exact h1
              have h2' : PlK k u S1 T1 := by
                unfold PlK; rw [q4.2, q5.2]; exact h2
              exact ⟨(h1'.ft c a2 a3).fp b2 b3, (h2'.ft a2 a3).fp c b2 b3⟩)
          exact ⟨S', T', z1, fS.trans z2, fT.trans z3, z4⟩
        · rw [w1]
          simp only [Option.bind_some, b00, if_true]
          by_cases c : t = 2
          · subst c
            refine ⟨S3, T3, ?_, fS, fT, Or.inr (Or.inl ⟨p, rfl, w3, w2.2.2.2.1, w2.2.2.2.2.1, w2.1, w2.2.1, w2.2.2.1⟩)⟩
            unfold m_X7_readLifter_L104
            rw [if_pos (by decide)]
          · obtain ⟨m3, rfl⟩ : ∃ q, m2 = q + 1 := ⟨m2 - 1, by omega⟩
            rw [lifter8 (by omega) w2.2.2.1]
            obtain ⟨S4, d1, d2, d3⟩ := dead_sign w2 (c := 59) (by omega) (by omega)
            rw [show (59 : Int32) = nI 59 from rfl, d1]
            simp only [Option.bind_some]
            obtain ⟨S5, e1, e2, e3⟩ := bad_table (n := m3 + 1) (k := k) (t := t + 1) (by omega) d2 w4 (by omega)
            rw [e1]
            simp only [Option.bind_some]
            obtain ⟨S6, f1, f2, f3⟩ := pln_bad (n := m3 + 1) (k := k) (t := t + 1) e2 w4
            rw [f1]
            simp only [Option.bind_some]
            rw [stop104 f2 w4]
            exact ⟨S6, T3, rfl, ((fS.trans d3.fa).trans e3.fa).trans f3.fa, fT, Or.inr (Or.inr ⟨p, rfl, f2, w3, w4⟩)⟩
        · rw [w1]
          simp only [Option.bind_some, b00, if_true]
          rw [stop104 w2 w4]
          exact ⟨S3, T3, rfl, fS, fT, Or.inr (Or.inr ⟨p, rfl, w2, w3, w4⟩)⟩
      · rw [u1]
        simp only [Option.bind_some, b00, if_true]
        obtain ⟨S3, f1, f2, f3⟩ := pln_dead (n := m2 + 1) (k := k) (t := t) u2
        rw [f1]
        simp only [Option.bind_some]
        rw [stop104 f2 u4]
        exact ⟨S3, T2, rfl, (q4.fa.trans a2.fa).trans f3.fa, q5.fa.trans a3.fa, Or.inr (Or.inr ⟨p, rfl, f2, u3, u4⟩)⟩
      · rw [u1]
        simp only [Option.bind_some, b00, if_true]
        obtain ⟨S3, f1, f2, f3⟩ := pln_bad (n := m2 + 1) (k := k) (t := t) u2 u4
        rw [f1]
        simp only [Option.bind_some]
        rw [stop104 f2 u4]
        exact ⟨S3, T2, rfl, (q4.fa.trans a2.fa).trans f3.fa, q5.fa.trans a3.fa, Or.inr (Or.inr ⟨p, rfl, f2, u3, u4⟩)⟩
    · rw [q1, q2]
      simp only [Option.bind_some, b00, if_true]
      obtain ⟨S5, e1, e2, e3⟩ := bad_table (n := m2 + 1) (k := k) (t := t) ht q3 hb (by omega)
      rw [e1]
      simp only [Option.bind_some]
      obtain ⟨S6, f1, f2, f3⟩ := pln_bad (n := m2 + 1) (k := k) (t := t) e2 hb
      rw [f1]
      simp only [Option.bind_some]
      rw [stop104 f2 hb]
      exact ⟨S6, T, rfl, (q4.fa.trans e3.fa).trans f3.fa, FaT.rfl T, Or.inr (Or.inr ⟨at', rfl, f2, hG.2.2.2.2.1, hb⟩)⟩
theorem lot_same {k at' v len : Nat} (hk : k ≤ 6) : ∀ d i n n' S T, i + d = k → d + 1 ≤ n → d + 1 ≤ n' → GP len at' S T → 1 ≤ at' → S.1 (11 + 2 * k) = nI v → T.1 21 = nI v → T.1 3 = nI k → (∀ j, j < k → S.1 (11 + 2 * j) = T.2.1 5 j) → (∀ j, j < i → T.2.1 5 j ≠ nI v) →
    (m_X7_readLifter_L58 n S (nI k) k (nI i) = some S ∧ m_X9_takesLot_L14 n' T (nI i) = some (1, T) ∧ ∀ j, j < k → T.2.1 5 j ≠ nI v) ∨
    (∃ S' T', m_X7_readLifter_L58 n S (nI k) k (nI i) = some S' ∧ m_X9_takesLot_L14 n' T (nI i) = some (0, T') ∧ S'.1 3 = nI (at' - 1) ∧ T'.1 19 = nI (at' - 1) ∧ P23 S S' ∧ Q19 T T') := by
  intro d
  induction d with
  | zero =>
    intro i n n' S T hid hn hn' hG hat h1 h2 h3 h4 h5
    obtain ⟨m, rfl⟩ : ∃ m, n = m + 1 := ⟨n - 1, by omega⟩
    obtain ⟨m', rfl⟩ : ∃ m, n' = m + 1 := ⟨n' - 1, by omega⟩
    left
    refine ⟨?_, ?_, fun j hj => h5 j (by omega)⟩
    · unfold m_X7_readLifter_L58
      rw [if_pos (by rw [leN (by omega) (by omega)]; omega)]
    · unfold m_X9_takesLot_L14
      rw [h3, if_pos (by rw [leN (by omega) (by omega)]; omega)]
  | succ d ih =>
    intro i n n' S T hid hn hn' hG hat h1 h2 h3 h4 h5
    obtain ⟨m, rfl⟩ : ∃ m, n = m + 1 := ⟨n - 1, by omega⟩
    obtain ⟨m', rfl⟩ : ∃ m, n' = m + 1 := ⟨n' - 1, by omega⟩
    obtain ⟨k1, k2, k3, k4, k5, k6, k7, k8⟩ := id hG
    have hi : i < k := by omega
    unfold m_X7_readLifter_L58 m_X9_takesLot_L14
    simp only [nmE]
    rw [h3, if_neg (show ¬ nI k ≤ nI i by rw [leN (by omega) (by omega)]; omega), if_neg (show ¬ nI k ≤ nI i by rw [leN (by omega) (by omega)]; omega), k3, if_neg (show ¬ (0 : Int32) ≤ -1 by decide), ckN (by omega) (by omega), ckN (by omega) (by omega), clN (by omega), h4 i hi, h1, h2, k2, k5]
    by_cases c : T.2.1 5 i = nI v
    · rw [if_pos c, if_pos c, show nI at' - 1 = nI (at' - 1) by rw [lit32 1, subN (by omega)], s1]
      right
      refine ⟨sI S 3 (nI (at' - 1)), sI T 19 (nI (at' - 1)), ?_, rfl, sI_eq, sI_eq, (P23.rfl S).bad _, (Q19.rfl T).at _⟩
      obtain ⟨m2, rfl⟩ : ∃ q, m = q + 1 := ⟨m - 1, by omega⟩
      unfold m_X7_readLifter_L58
      rw [sI_eq, if_pos (show (0 : Int32) ≤ nI (at' - 1) by rw [show (0 : Int32) = nI 0 from rfl, leN (by omega) (by omega)]; omega)]
      split <;> rfl
    · rw [if_neg c, if_neg c, s1]
      exact ih (i + 1) m m' S T (by omega) (by omega) (by omega) hG hat h1 h2 h3 h4 (fun j hj => by
        by_cases cj : j = i
        · subst cj; exact c
        · exact h5 j (by omega))
/-- the frames of reading a lifter -/
theorem FaS.fr {k : Nat} {S S' : St} (h : FaS k S S') : FrP k S S' := ⟨fun i a b _ _ => h.1 i a b, h.2.1, h.2.2⟩
theorem FaT.fr {T T' : St} (h : FaT T T') : FrQ T T' := ⟨fun i a b _ _ => h.1 i a b, h.2.1, h.2.2⟩
theorem FrP.body {k : Nat} {S S' : St} (h : FrP k S S') (v : Int32) : FrP k S (sI S' (10 + 2 * k) v) := ⟨fun i a b c d => by rw [sI_ne c]; exact h.1 i a b c d, h.2.1, h.2.2⟩
theorem FrP.lot {k : Nat} {S S' : St} (h : FrP k S S') (v : Int32) : FrP k S (sI S' (11 + 2 * k) v) := ⟨fun i a b c d => by rw [sI_ne d]; exact h.1 i a b c d, h.2.1, h.2.2⟩
theorem FrQ.body {T T' : St} (h : FrQ T T') (v : Int32) : FrQ T (sI T' 22 v) := ⟨fun i a b c d => by rw [sI_ne c]; exact h.1 i a b c d, h.2.1, h.2.2⟩
theorem FrQ.lot {T T' : St} (h : FrQ T T') (v : Int32) : FrQ T (sI T' 23 v) := ⟨fun i a b c d => by rw [sI_ne d]; exact h.1 i a b c d, h.2.1, h.2.2⟩
theorem GP.int {len at' i j : Nat} {S T : St} (h : GP len at' S T) (u v : Int32) (hi : 4 ≤ i) (hj : j = 22 ∨ j = 23) : GP len at' (sI S i u) (sI T j v) := by
  obtain ⟨k1, k2, k3, k4, k5, k6, k7, k8⟩ := h
  refine ⟨?_, ?_, ?_, ?_, ?_, k6, k7, k8⟩
  · rw [sI_ne (by omega)]; exact k1
  · rw [sI_ne (by omega)]; exact k2
  · rw [sI_ne (by omega)]; exact k3
  · rw [sI_ne (by omega)]; exact k4
  · rw [sI_ne (by omega)]; exact k5
theorem GP.int1 {len at' i : Nat} {S T : St} (h : GP len at' S T) (u : Int32) (hi : 4 ≤ i) : GP len at' (sI S i u) T := by
  obtain ⟨k1, k2, k3, k4, k5, k6, k7, k8⟩ := h
  refine ⟨?_, ?_, ?_, k4, k5, k6, k7, k8⟩
  · rw [sI_ne (by omega)]; exact k1
  · rw [sI_ne (by omega)]; exact k2
  · rw [sI_ne (by omega)]; exact k3
theorem GP.int2 {len at' j : Nat} {S T : St} (h : GP len at' S T) (v : Int32) (hj : j = 22 ∨ j = 23) : GP len at' S (sI T j v) := by
  obtain ⟨k1, k2, k3, k4, k5, k6, k7, k8⟩ := h
  refine ⟨k1, k2, k3, ?_, ?_, k6, k7, k8⟩
  · rw [sI_ne (by omega)]; exact k4
  · rw [sI_ne (by omega)]; exact k5
/-- both read a lifter -/
theorem lifter_same {len k n n' : Nat} {S T : St} (hk : k ≤ 6) (hn : 200 ≤ n) (hn' : 200 ≤ n') (hG : GP len 0 (sI (sI S 2 0) 3 (-1)) T) (h3 : T.1 3 = nI k) (hlot : ∀ j, j < k → S.1 (11 + 2 * j) = T.2.1 5 j) :
    ∃ S' T', FrP k S S' ∧ FrQ T T' ∧
      ((∃ b v, m_X7_readLifter n S (nI k) = some (-1, S') ∧ m_X9_takesLifter n' T = some (1, T') ∧ AllK k 3 S' T' ∧ S'.1 (10 + 2 * k) = nI b ∧ T'.1 22 = nI b ∧ 1 ≤ b ∧ b ≤ 200 ∧ S'.1 (11 + 2 * k) = nI v ∧ T'.1 23 = nI v ∧ v ≤ 99 ∧ ∀ j, j < k → T.2.1 5 j ≠ nI v) ∨
       (∃ p, m_X7_readLifter n S (nI k) = some (nI p, S') ∧ m_X9_takesLifter n' T = some (0, T') ∧ T'.1 19 = nI p ∧ p ≤ 240)) := by
  have hfin : ∀ X : St, ∀ p, X.1 3 = nI p → p ≤ 240 → (if 0 ≤ (X.1 3) then (some (X.1 3, X)) else (if (X.1 1) ≤ (X.1 2) then (some (X.1 3, X)) else (some ((sI X 3 (X.1 2)).1 3, sI X 3 (X.1 2)))) : Option (Int32 × St)) = some (nI p, X) := fun X p h hp => by
    rw [h, if_pos (show (0 : Int32) ≤ nI p by rw [show (0 : Int32) = nI 0 from rfl, leN (by omega) (by omega)]; omega)]
  have f0 : FrP k S (sI (sI S 2 0) 3 (-1)) := ((P23.rfl S).at 0 |>.bad (-1)).fr
  -- a state that is bad before the lots are compared
  have hbad1 : ∀ X : St, ∀ p, X.1 3 = nI p → p ≤ 240 → FrP k S X → ∃ S', FrP k S S' ∧ ((m_X7_readLifter_L58 n X (nI k) k 0).bind (fun q18 => (m_X7_readLifter_L104 n q18 k 0).bind (fun q26 => (if 0 ≤ (q26.1 3) then (some (q26.1 3, q26)) else (if (q26.1 1) ≤ (q26.1 2) then (some (q26.1 3, q26)) else (some ((sI q26 3 (q26.1 2)).1 3, sI q26 3 (q26.1 2)))) : Option (Int32 × St))))) = some (nI p, S') := fun X p h hp hF => by
    have e58 : m_X7_readLifter_L58 n X (nI k) k 0 = some X := by
      obtain ⟨m, rfl⟩ : ∃ m, n = m + 1 := ⟨n - 1, by omega⟩
      unfold m_X7_readLifter_L58
      rw [h, if_pos (show (0 : Int32) ≤ nI p by rw [show (0 : Int32) = nI 0 from rfl, leN (by omega) (by omega)]; omega)]
      split <;> rfl
    have e104 : m_X7_readLifter_L104 n X k 0 = some X := by
      obtain ⟨m, rfl⟩ : ∃ m, n = m + 1 := ⟨n - 1, by omega⟩
      exact stop104 (t := 0) h hp
    refine ⟨X, hF, ?_⟩
    rw [e58]
    simp only [Option.bind_some]
    rw [e104]
    simp only [Option.bind_some]
    exact hfin X p h hp
  unfold m_X7_readLifter m_X9_takesLifter
  simp only [nmE]
  rw [if_neg (nI_pos (by omega)), lit32 7, if_pos (show nI k < nI 7 by rw [ltN (by omega) (by omega)]; omega), ckN (by omega) (by omega), clN (by omega)]
  rw [show ∀ X, m_X7_readNumber n X 1 200 = m_X7_readNumber n X (nI 1) (nI 200) from fun _ => rfl, show ∀ X, m_X9_takesNumber n' X 1 200 = m_X9_takesNumber n' X (nI 1) (nI 200) from fun _ => rfl]
  rcases tnum_same (lo := 1) (hi := 200) (n := n) (n' := n') hG (by omega) (by omega) (by omega) (by omega) with ⟨S1, T1, at1, b, r1, r2, r3, r4, r5, r6, r7, r8, r9⟩ | ⟨S1, T1, b, p, r1, r2, r3, r4, r5, r6, r7, r8, r9⟩ | ⟨S1, T1, b, p, r1, r2, r3, r4, r5, r6, r7⟩
  · rw [r1, r2]
    simp only [Option.bind_some, b10, if_false]
    rw [r4]
    have hG2 : GP len at1 (sI S1 (10 + 2 * k) (nI b)) (sI T1 22 (nI b)) := r3.int _ _ (by omega) (by omega)
    have fS1 : FrP k S (sI S1 (10 + 2 * k) (nI b)) := (f0.trans r7.fr).body _
    have fT1 : FrQ T (sI T1 22 (nI b)) := r8.fr.body _
    rcases sign_same hG2 44 with ⟨S2, T2, q1, q2, q3, q4, q5, q6⟩ | ⟨S2, q1, q2, q3, q4⟩
    · rw [q1, q2]
      simp only [Option.bind_some, b10, if_false]
      unfold m_X9_takesLot
      rw [show ∀ X, m_X7_readNumber n X 0 99 = m_X7_readNumber n X (nI 0) (nI 99) from fun _ => rfl, show ∀ X, m_X9_readsNumber n' X 0 99 = m_X9_readsNumber n' X (nI 0) (nI 99) from fun _ => rfl]
      have fS2 := fS1.trans q4.fr
      have fT2 := fT1.trans q5.fr
      rcases num_same (lo := 0) (hi := 99) (n := n) (n' := n') q3 (by omega) (by omega) (by omega) (by omega) with ⟨S3, T3, at3, v, u1, u2, u3, u4, u5, u6, u7, u8, u9⟩ | ⟨S3, T3, v, p, u1, u2, u3, u4, u5, u6, u7⟩
      · rw [u1, u2]
        simp only [Option.bind_some, b10, if_false]
        have fS3 : FrP k S (sI S3 (11 + 2 * k) (nI v)) := (fS2.trans u7.fr).lot _
        have fT3 : FrQ T T3 := fT2.trans u8.fr
        have hG4 : GP len at3 (sI S3 (11 + 2 * k) (nI v)) T3 := u3.int1 _ (by omega)
        have e22 : T3.1 22 = nI b := by rw [u8.1 22 (by omega) (by omega), q5.1 22 (by omega) (by omega), sI_eq]
        have eb : (sI S3 (11 + 2 * k) (nI v)).1 (10 + 2 * k) = nI b := by rw [sI_ne (by omega), u7.1 _ (by omega) (by omega), q4.1 _ (by omega) (by omega), sI_eq]
        have hat3 : at3 ≤ 240 := by have := u3.2.2.2.2.2.1; have := u3.2.2.2.2.2.2.1; omega
        have h5 : T3.2.1 5 = T.2.1 5 := fT3.2.1 5 (by omega)
        rcases lot_same (len := len) (at' := at3) (v := v) hk k 0 n n' (sI S3 (11 + 2 * k) (nI v)) T3 (by omega) (by omega) (by omega) hG4 u9 sI_eq u4 ((fT3.1 3 (by omega) (by omega) (by omega) (by omega)).trans h3) (fun j hj => by rw [fS3.1 (11 + 2 * j) (by omega) (by omega) (by omega) (by omega), h5]; exact hlot j hj) (fun j hj => absurd hj (by omega)) with ⟨w1, w2, w3⟩ | ⟨S4, T4, w1, w2, w3, w4, w5, w6⟩
        · rw [show m_X7_readLifter_L58 n (sI S3 (11 + 2 * k) (nI v)) (nI k) k 0 = _ from w1, show m_X9_takesLot_L14 n' T3 0 = _ from w2]
          simp only [Option.bind_some, b10, if_false]
          rw [u4]
          obtain ⟨S5, T5, z1, z2, z3, z4⟩ := life_same (len := len) (k := k) 3 0 n n' at3 (sI S3 (11 + 2 * k) (nI v)) (sI T3 23 (nI v)) (by omega) (by omega) (by omega) (hG4.int2 _ (by omega)) (fun u hu => absurd hu (by omega))
          rw [show m_X7_readLifter_L104 n (sI S3 (11 + 2 * k) (nI v)) k 0 = _ from z1]
          simp only [Option.bind_some]
          have fS5 : FrP k S S5 := fS3.trans z2.fr
          have fT5 : FrQ T T5 := (fT3.lot _).trans z3.fr
          rcases z4 with ⟨y1, y2, y3⟩ | ⟨p, y1, y2, y3, y4, y5, y6, y7⟩ | ⟨p, y1, y2, y3, y4⟩
          · refine ⟨S5, T5, fS5, fT5, Or.inl ⟨b, v, ?_, y1, y3, ?_, ?_, r5, r6, ?_, ?_, u6, fun j hj => by rw [← h5]; exact w3 j hj⟩⟩
            · rw [y2.2.2.1, if_neg (by decide), y2.1, y2.2.1, if_pos (by rw [leN (by have := y2.2.2.2.2.2.2.1; omega) (by have := y2.2.2.2.2.2.2.1; omega)]; omega)]
            · rw [z2.1 _ (by omega) (by omega)]; exact eb
            · rw [z3.1 22 (by omega) (by omega), sI_ne (by omega)]; exact e22
            · rw [z2.1 _ (by omega) (by omega), sI_eq]
            · rw [z3.1 23 (by omega) (by omega), sI_eq]
          · refine ⟨sI S5 3 (nI p), T5, fS5.trans ((P23.rfl S5).bad _).fr, fT5, Or.inr ⟨p, ?_, y1, y2, by omega⟩⟩
            rw [y7, if_neg (by decide), y5, y6, if_neg (by rw [leN (by omega) (by omega)]; omega), sI_eq]
          · exact ⟨S5, T5, fS5, fT5, Or.inr ⟨p, hfin S5 p y2 y4, y1, y3, y4⟩⟩
        · rw [show m_X7_readLifter_L58 n (sI S3 (11 + 2 * k) (nI v)) (nI k) k 0 = _ from w1, show m_X9_takesLot_L14 n' T3 0 = _ from w2]
          simp only [Option.bind_some, b00, if_true]
          have e104 : m_X7_readLifter_L104 n S4 k 0 = some S4 := by
            obtain ⟨m, rfl⟩ : ∃ m, n = m + 1 := ⟨n - 1, by omega⟩
            exact stop104 (t := 0) w3 (by omega)
          rw [e104]
          simp only [Option.bind_some]
          exact ⟨S4, T4, fS3.trans w5.fr, fT3.trans w6.fr, Or.inr ⟨at3 - 1, hfin S4 _ w3 (by omega), rfl, w4, by omega⟩⟩
      · rw [u1, u2]
        simp only [Option.bind_some, b00, if_true]
        obtain ⟨S', f1, f2⟩ := hbad1 (sI S3 (11 + 2 * k) v) p (by rw [sI_ne (by omega)]; exact u3) u5 ((fS2.trans u6.fr).lot _)
        exact ⟨S', T3, f1, fT2.trans u7.fr, Or.inr ⟨p, f2, rfl, u4, u5⟩⟩
    · rw [q1, q2]
      simp only [Option.bind_some, b00, if_true]
      have hp : at1 ≤ 240 := by have := r3.2.2.2.2.2.1; have := r3.2.2.2.2.2.2.1; omega
      rw [bad_num q3 hp]
      simp only [Option.bind_some]
      obtain ⟨S', f1, f2⟩ := hbad1 (sI S2 (11 + 2 * k) 0) at1 (by rw [sI_ne (by omega)]; exact q3) hp ((fS1.trans q4.fr).lot _)
      exact ⟨S', sI T1 22 (nI b), f1, fT1, Or.inr ⟨at1, f2, rfl, by rw [sI_ne (by omega)]; exact r3.2.2.2.2.1, hp⟩⟩
  · rw [r1, r2]
    simp only [Option.bind_some, b00, if_true]
    have hD : DP len p (sI S1 (10 + 2 * k) (nI b)) := by
      obtain ⟨d1, d2, d3, d4, d5, d6⟩ := r3
      exact ⟨by rw [sI_ne (by omega)]; exact d1, by rw [sI_ne (by omega)]; exact d2, by rw [sI_ne (by omega)]; exact d3, d4, d5, d6⟩
    obtain ⟨S2, q1, q3, q4⟩ := dead_sign hD (c := 44) (by omega) (by omega)
    rw [show (44 : Int32) = nI 44 from rfl, q1]
    simp only [Option.bind_some]
    rw [bad_num q3 r5]
    simp only [Option.bind_some]
    obtain ⟨S', f1, f2⟩ := hbad1 (sI S2 (11 + 2 * k) 0) p (by rw [sI_ne (by omega)]; exact q3) r5 ((((f0.trans r8.fr).body _).trans q4.fr).lot _)
    exact ⟨S', T1, f1, r9.fr, Or.inr ⟨p, f2, rfl, r4, r5⟩⟩
  · rw [r1, r2]
    simp only [Option.bind_some, b00, if_true]
    have h3' : (sI S1 (10 + 2 * k) b).1 3 = nI p := by rw [sI_ne (by omega)]; exact r3
    rw [bad_sign h3' r5]
    simp only [Option.bind_some]
    rw [bad_num h3' r5]
    simp only [Option.bind_some]
    obtain ⟨S', f1, f2⟩ := hbad1 (sI (sI S1 (10 + 2 * k) b) (11 + 2 * k) 0) p (by rw [sI_ne (by omega)]; exact h3') r5 (((f0.trans r6.fr).body _).lot _)
    exact ⟨S', T1, f1, r7.fr, Or.inr ⟨p, f2, rfl, r4, r5⟩⟩
/-! the reference enters what it has read -/
theorem ent104_L {k t : Nat} (hk : k < 6) (ht : t < 3) : ∀ d i n T, i + d = 6 → d + 1 ≤ n → T.1 3 = nI k → ∃ T', m_X9_enters_L104 n T (nI t) (nI i) = some T' ∧ T'.1 = T.1 ∧ T'.2.2 = T.2.2 ∧ (∀ a, a ≠ 7 → a ≠ 8 → T'.2.1 a = T.2.1 a) ∧ (∀ y, T'.2.1 7 y = if 6 * (3 * k + t) + i ≤ y ∧ y < 6 * (3 * k + t) + 6 then T.2.1 25 (6 * t + (y - 6 * (3 * k + t))) else T.2.1 7 y) ∧ (∀ y, T'.2.1 8 y = if 6 * (3 * k + t) + i ≤ y ∧ y < 6 * (3 * k + t) + 6 then T.2.1 26 (6 * t + (y - 6 * (3 * k + t))) else T.2.1 8 y) := by
  intro d
  induction d with
  | zero =>
    intro i n T hid hn h3
    obtain ⟨m, rfl⟩ : ∃ m, n = m + 1 := ⟨n - 1, by omega⟩
    refine ⟨T, ?_, rfl, rfl, fun _ _ _ => rfl, fun y => by rw [if_neg (by omega)], fun y => by rw [if_neg (by omega)]⟩
    unfold m_X9_enters_L104
    rw [lit32 6, if_pos (by rw [leN (by omega) (by omega)]; omega)]
  | succ d ih =>
    intro i n T hid hn h3
    obtain ⟨m, rfl⟩ : ∃ m, n = m + 1 := ⟨n - 1, by omega⟩
    obtain ⟨T', e1, e2, e3, e4, e5, e6⟩ := ih (i + 1) m (sA (sA T 7 (6 * (3 * k + t) + i) (T.2.1 25 (6 * t + i))) 8 (6 * (3 * k + t) + i) (T.2.1 26 (6 * t + i))) (by omega) (by omega) h3
    refine ⟨T', ?_, e2, e3, fun a h1 h2 => by rw [e4 a h1 h2, sA_row h2, sA_row h1], fun y => ?_, fun y => ?_⟩
    · unfold m_X9_enters_L104
      simp only [nmE, sA_1, h3]
      rw [show (6 : Int32) * nI t + nI i = nI (6 * t + i) by rw [lit32 6, pk_mul, nI_add], show (6 : Int32) * (3 * nI k + nI t) + nI i = nI (6 * (3 * k + t) + i) by rw [lit32 6, lit32 3, pk_mul, nI_add, pk_mul, nI_add], lit32 6, if_neg (by rw [leN (by omega) (by omega)]; omega), ckN (by omega) (by omega), ckN (by omega) (by omega), ckN (by omega) (by omega), ckN (by omega) (by omega), clN (by omega), clN (by omega), s1, sA_row (show (26 : Nat) ≠ 7 by omega)]
      exact e1
    · rw [e5 y, sA_row (show (25 : Nat) ≠ 8 by omega), sA_row (show (25 : Nat) ≠ 7 by omega), sA_row (show (7 : Nat) ≠ 8 by omega), sA_21, if_pos rfl]
      by_cases c : y = 6 * (3 * k + t) + i
      · rw [if_neg (by omega), if_pos c, if_pos (by omega), c, show 6 * (3 * k + t) + i - 6 * (3 * k + t) = i by omega]
      · rw [if_neg c]
        by_cases c2 : 6 * (3 * k + t) + (i + 1) ≤ y ∧ y < 6 * (3 * k + t) + 6
        · rw [if_pos c2, if_pos (by omega)]
        · rw [if_neg c2, if_neg (by omega)]
    · rw [e6 y, sA_row (show (26 : Nat) ≠ 8 by omega), sA_row (show (26 : Nat) ≠ 7 by omega), sA_21, if_pos rfl, sA_row (show (8 : Nat) ≠ 7 by omega)]
      by_cases c : y = 6 * (3 * k + t) + i
      · rw [if_neg (by omega), if_pos c, if_pos (by omega), c, show 6 * (3 * k + t) + i - 6 * (3 * k + t) = i by omega]
      · rw [if_neg c]
        by_cases c2 : 6 * (3 * k + t) + (i + 1) ≤ y ∧ y < 6 * (3 * k + t) + 6
        · rw [if_pos c2, if_pos (by omega)]
        · rw [if_neg c2, if_neg (by omega)]
theorem ent176_L {k t : Nat} (hk : k < 6) (ht : t < 3) : ∀ d i n T, i + d = 3 → d + 1 ≤ n → T.1 3 = nI k → ∃ T', m_X9_enters_L176 n T (nI t) (nI i) = some T' ∧ T'.1 = T.1 ∧ T'.2.2 = T.2.2 ∧ (∀ a, a ≠ 9 → T'.2.1 a = T.2.1 a) ∧ (∀ y, T'.2.1 9 y = if 3 * (3 * k + t) + i ≤ y ∧ y < 3 * (3 * k + t) + 3 then T.2.1 27 (3 * t + (y - 3 * (3 * k + t))) else T.2.1 9 y) := by
  intro d
  induction d with
  | zero =>
    intro i n T hid hn h3
    obtain ⟨m, rfl⟩ : ∃ m, n = m + 1 := ⟨n - 1, by omega⟩
    refine ⟨T, ?_, rfl, rfl, fun _ _ => rfl, fun y => by rw [if_neg (by omega)]⟩
    unfold m_X9_enters_L176
    rw [lit32 3, if_pos (by rw [leN (by omega) (by omega)]; omega)]
  | succ d ih =>
    intro i n T hid hn h3
    obtain ⟨m, rfl⟩ : ∃ m, n = m + 1 := ⟨n - 1, by omega⟩
    obtain ⟨T', e1, e2, e3, e4, e5⟩ := ih (i + 1) m (sA T 9 (3 * (3 * k + t) + i) (T.2.1 27 (3 * t + i))) (by omega) (by omega) h3
    refine ⟨T', ?_, e2, e3, fun a h1 => by rw [e4 a h1, sA_row h1], fun y => ?_⟩
    · unfold m_X9_enters_L176
      simp only [nmE]
      rw [h3, show (3 : Int32) * nI t + nI i = nI (3 * t + i) by rw [lit32 3, pk_mul, nI_add], show (3 : Int32) * (3 * nI k + nI t) + nI i = nI (3 * (3 * k + t) + i) by rw [lit32 3, pk_mul, nI_add, pk_mul, nI_add], lit32 3, if_neg (by rw [leN (by omega) (by omega)]; omega), ckN (by omega) (by omega), ckN (by omega) (by omega), clN (by omega), clN (by omega), s1]
      exact e1
    · rw [e5 y, sA_row (show (27 : Nat) ≠ 9 by omega), sA_21, if_pos rfl]
      by_cases c : y = 3 * (3 * k + t) + i
      · rw [if_neg (by omega), if_pos c, if_pos (by omega), c, show 3 * (3 * k + t) + i - 3 * (3 * k + t) = i by omega]
      · rw [if_neg c]
        by_cases c2 : 3 * (3 * k + t) + (i + 1) ≤ y ∧ y < 3 * (3 * k + t) + 3
        · rw [if_pos c2, if_pos (by omega)]
        · rw [if_neg c2, if_neg (by omega)]
/-- what is entered for the lifts below t -/
def EntK (k t : Nat) (T T' : St) : Prop := ∀ u, u < t → T'.2.1 6 (3 * k + u) = T.2.1 24 u ∧ (∀ j, j < 6 → T'.2.1 7 (6 * (3 * k + u) + j) = T.2.1 25 (6 * u + j) ∧ T'.2.1 8 (6 * (3 * k + u) + j) = T.2.1 26 (6 * u + j)) ∧ ∀ w, w < 3 → T'.2.1 9 (3 * (3 * k + u) + w) = T.2.1 27 (3 * u + w)
def EntF (k : Nat) (T T' : St) : Prop := T'.1 = T.1 ∧ T'.2.2 = T.2.2 ∧ (∀ a, a < 6 ∨ 9 < a → T'.2.1 a = T.2.1 a) ∧ (∀ y, y < 3 * k → T'.2.1 6 y = T.2.1 6 y) ∧ (∀ y, y < 18 * k → T'.2.1 7 y = T.2.1 7 y ∧ T'.2.1 8 y = T.2.1 8 y) ∧ ∀ y, y < 9 * k → T'.2.1 9 y = T.2.1 9 y
theorem ent78_L {k : Nat} (hk : k < 6) {T0 : St} : ∀ d t n T, t + d = 3 → d + 20 ≤ n → T0.1 3 = nI k → EntK k t T0 T → EntF k T0 T → ∃ T', m_X9_enters_L78 n T (nI t) = some T' ∧ EntK k 3 T0 T' ∧ EntF k T0 T' := by
  intro d
  induction d with
  | zero =>
    intro t n T htd hn h3 hK hF
    obtain ⟨m, rfl⟩ : ∃ m, n = m + 1 := ⟨n - 1, by omega⟩
    have : t = 3 := by omega
    subst this
    refine ⟨T, ?_, hK, hF⟩
    unfold m_X9_enters_L78
    rw [lit32 3, if_pos (by rw [leN (by omega) (by omega)]; omega)]
  | succ d ih =>
    intro t n T htd hn h3 hK hF
    obtain ⟨m, rfl⟩ : ∃ m, n = m + 1 := ⟨n - 1, by omega⟩
    have ht : t < 3 := by omega
    have h3T : T.1 3 = nI k := by rw [hF.1]; exact h3
    obtain ⟨T2, a1, a2, a3, a4, a5, a6⟩ := ent104_L hk ht 6 0 m (sA T 6 (3 * k + t) (T.2.1 24 t)) (by omega) (by omega) h3T
    obtain ⟨T3, b1, b2, b3, b4, b5⟩ := ent176_L hk ht 3 0 m T2 (by omega) (by omega) (by rw [a2]; exact h3T)
    have r : ∀ a, a < 6 ∨ 9 < a → T3.2.1 a = T0.2.1 a := fun a ha => by rw [b4 a (by omega), a4 a (by omega) (by omega), sA_row (by omega), hF.2.2.1 a ha]
    have r6 : ∀ y, T3.2.1 6 y = if y = 3 * k + t then T0.2.1 24 t else T.2.1 6 y := fun y => by
      rw [b4 6 (by omega), a4 6 (by omega) (by omega), sA_21, if_pos rfl, hF.2.2.1 24 (by omega)]
    have r7 : ∀ y, T3.2.1 7 y = if 6 * (3 * k + t) ≤ y ∧ y < 6 * (3 * k + t) + 6 then T0.2.1 25 (6 * t + (y - 6 * (3 * k + t))) else T.2.1 7 y := fun y => by
      rw [b4 7 (by omega), a5 y, sA_row (show (25 : Nat) ≠ 6 by omega), sA_row (show (7 : Nat) ≠ 6 by omega), hF.2.2.1 25 (by omega)]; rfl
    have r8 : ∀ y, T3.2.1 8 y = if 6 * (3 * k + t) ≤ y ∧ y < 6 * (3 * k + t) + 6 then T0.2.1 26 (6 * t + (y - 6 * (3 * k + t))) else T.2.1 8 y := fun y => by
      rw [b4 8 (by omega), a6 y, sA_row (show (26 : Nat) ≠ 6 by omega), sA_row (show (8 : Nat) ≠ 6 by omega), hF.2.2.1 26 (by omega)]; rfl
    have r9 : ∀ y, T3.2.1 9 y = if 3 * (3 * k + t) ≤ y ∧ y < 3 * (3 * k + t) + 3 then T0.2.1 27 (3 * t + (y - 3 * (3 * k + t))) else T.2.1 9 y := fun y => by
      rw [b5 y, a4 27 (by omega) (by omega), a4 9 (by omega) (by omega), sA_row (show (27 : Nat) ≠ 6 by omega), sA_row (show (9 : Nat) ≠ 6 by omega), hF.2.2.1 27 (by omega)]; rfl
    obtain ⟨T', e1, e2, e3⟩ := ih (t + 1) m T3 (by omega) (by omega) h3 (fun u hu => by
      by_cases c : u = t
      · subst c
        refine ⟨by rw [r6, if_pos rfl], fun j hj => ⟨?_, ?_⟩, fun w hw => ?_⟩
        · rw [r7, if_pos (by omega), show 6 * (3 * k + u) + j - 6 * (3 * k + u) = j by omega]
        · rw [r8, if_pos (by omega), show 6 * (3 * k + u) + j - 6 * (3 * k + u) = j by omega]
        · rw [r9, if_pos (by omega), show 3 * (3 * k + u) + w - 3 * (3 * k + u) = w by omega]
      · obtain ⟨x1, x2, x3⟩ := hK u (by omega)
        refine ⟨by rw [r6, if_neg (by omega)]; exact x1, fun j hj => ⟨?_, ?_⟩, fun w hw => ?_⟩
        · rw [r7, if_neg (by omega)]; exact (x2 j hj).1
        · rw [r8, if_neg (by omega)]; exact (x2 j hj).2
        · rw [r9, if_neg (by omega)]; exact x3 w hw) ⟨by rw [b2, a2]; exact hF.1, by rw [b3, a3]; exact hF.2.1, r, fun y hy => by rw [r6, if_neg (by omega)]; exact hF.2.2.2.1 y hy, fun y hy => ⟨by rw [r7, if_neg (by omega)]; exact (hF.2.2.2.2.1 y hy).1, by rw [r8, if_neg (by omega)]; exact (hF.2.2.2.2.1 y hy).2⟩, fun y hy => by rw [r9, if_neg (by omega)]; exact hF.2.2.2.2.2 y hy⟩
    refine ⟨T', ?_, e2, e3⟩
    unfold m_X9_enters_L78
    simp only [nmE]
    rw [h3T, show (3 : Int32) * nI k + nI t = nI (3 * k + t) by rw [lit32 3, pk_mul, nI_add], lit32 3, if_neg (by rw [leN (by omega) (by omega)]; omega), ckN (by omega) (by omega), ckN (by omega) (by omega), clN (by omega), clN (by omega), show m_X9_enters_L104 m (sA T 6 (3 * k + t) (T.2.1 24 t)) (nI t) 0 = _ from a1]
    simp only [Option.bind_some]
    rw [show m_X9_enters_L176 m T2 (nI t) 0 = _ from b1]
    simp only [Option.bind_some]
    rw [s1]
    exact e1
/-- enters -/
theorem hb_2 (n : Nat) (hn : 300 ≤ n) : HB_2 n RelB := by
  intro S oF oP T hR
  obtain ⟨hf, hro, k, hk, h3, h10, ⟨len, hlen, l1, l2, l3⟩, hli, hlo, hme, hmi, hlg⟩ := id hR
  unfold m_X8_enters m_X9_enters
  simp only [nmE]
  have hG : GP len 0 (sI (sI S 2 0) 3 (-1)) (sI (sI (sI (sI T 0 0) 20 ((sI T 0 0).1 18)) 18 0) 19 0) := ⟨l1, rfl, rfl, l2, rfl, by omega, hlen, l3⟩
  obtain ⟨S1, T1, f1, f2, f3⟩ := lifter_same (n := n) (n' := n) hk (by omega) (by omega) hG h3 (fun j hj => (hli j hj).2.2.1)
  have s30 : S.1 30 = nI k := hme.1
  have hsh : ∀ X : St, X.1 1 = nI len → m_X7_shorten X 0 = some (1, sI X 1 0) := fun X h => by
    unfold m_X7_shorten
    simp only [nmE]
    rw [if_neg (by decide), h, if_pos (show (0 : Int32) ≤ nI len by rw [show (0 : Int32) = nI 0 from rfl, leN (by omega) (by omega)]; omega)]
  have sl : S1.1 1 = nI len := (f1.1 1 (by omega) (by omega) (by omega) (by omega)).trans l1
  have S30 : S1.1 30 = nI k := (f1.1 30 (by omega) (by omega) (by omega) (by omega)).trans s30
  have T3 : T1.1 3 = nI k := (f2.1 3 (by omega) (by omega) (by omega) (by omega)).trans h3
  -- what stays of the state before
  have hRf : RefR (sI S1 1 0) oF oP := hf.congr (by show S1.2.2.2 = _; rw [f1.2.2])
  have hRo : RowR (sI S1 1 0) T1 := by
    obtain ⟨t, ht, r1, r2, r3⟩ := hro
    refine ⟨t, ht, ?_, ?_, fun j hj => ?_⟩
    · rw [sI_ne (by omega), f1.1 0 (by omega) (by omega) (by omega) (by omega)]; exact r1
    · rw [f2.1 1 (by omega) (by omega) (by omega) (by omega)]; exact r2
    · show S1.2.2.1 58 j = _; rw [f1.2.2, f2.2.2]; exact r3 j hj
  have hTa : TapeR (sI S1 1 0) T1 := ⟨0, by omega, sI_eq, by rw [f2.1 18 (by omega) (by omega) (by omega) (by omega)]; rfl, fun j hj => absurd hj (by omega)⟩
  have hLi : ∀ l, l < k → LifR (sI S1 1 0) T1 l := fun l hl => (hli l hl).congr (by rw [sI_ne (by omega)]; exact f1.1 _ (by omega) (by omega) (by omega) (by omega)) (by rw [sI_ne (by omega)]; exact f1.1 _ (by omega) (by omega) (by omega) (by omega)) (f1.2.1 _ (by omega) (by omega)) (f1.2.1 _ (by omega) (by omega)) (fun a h1 h2 => f2.2.1 a (by omega))
  have hkeep : RelB (sI S1 1 0) oF oP T1 := by
    refine ⟨hRf, hRo, k, hk, T3, ?_, hTa, hLi, ?_, ?_, ?_, ?_, ?_⟩
    · rw [f2.1 10 (by omega) (by omega) (by omega) (by omega)]; exact h10
    · rw [f2.2.1 5 (by omega)]; exact hlo
    · exact hme.congr (fun i hi => by rw [sI_ne (by omega)]; exact f1.1 _ (by omega) (by omega) (by omega) (by omega)) (fun a h1 h2 => f1.2.1 _ (by omega) (by omega)) (f2.1 10 (by omega) (by omega) (by omega) (by omega)) (f2.1 13 (by omega) (by omega) (by omega) (by omega)) (f2.1 14 (by omega) (by omega) (by omega) (by omega)) (f2.2.1 11 (by omega))
    · rw [f2.2.1 11 (by omega), f2.1 13 (by omega) (by omega) (by omega) (by omega), f2.1 14 (by omega) (by omega) (by omega) (by omega)]; exact hmi
    · intro i hi
      rw [f2.1 13 (by omega) (by omega) (by omega) (by omega)] at hi
      show S1.2.1 33 i = _
      rw [f1.2.1 33 (by omega) (by omega), f2.2.1 15 (by omega)]
      exact hlg.1 i hi
    · intro i hi
      show (S1.2.1 27 i = 0 ∨ S1.2.1 27 i = 1) ∧ (S1.2.1 29 i = 0 ∨ S1.2.1 29 i = 1)
      rw [f1.2.1 27 (by omega) (by omega), f1.2.1 29 (by omega) (by omega)]
      exact hlg.2 i hi
  rw [s30]
  rcases f3 with ⟨b, v, e1, e2, e3, e4, e5, e6, e7, e8, e9, e10, e11⟩ | ⟨p, e1, e2, e3, e4⟩
  · rw [e1, e2]
    simp only [Option.bind_some, b10, if_false]
    rw [hsh S1 sl]
    simp only [Option.bind_some]
    have q30 : (sI S1 1 0).1 30 = nI k := by rw [sI_ne (by omega)]; exact S30
    rw [if_pos (show (-1 : Int32) < 0 by decide), q30, T3, lit32 6, ifltN (by omega) (by omega), ifeqN (by omega) (by omega)]
    by_cases c6 : k = 6
    · rw [if_neg (by omega), if_pos c6]
      exact ⟨-2, _, _, rfl, rfl, hkeep⟩
    · rw [if_pos (by omega), if_neg c6, ckN (by omega) (by omega), clN (by omega), e5]
      have t3' : (sA T1 4 k (nI b)).1 3 = nI k := T3
      have t23 : (sA T1 4 k (nI b)).1 23 = nI v := e9
      rw [t3', ckN (by omega) (by omega), t23, clN (by omega)]
      have hE0 : EntF k (sA (sA T1 4 k (nI b)) 5 k (nI v)) (sA (sA T1 4 k (nI b)) 5 k (nI v)) := ⟨rfl, rfl, fun _ _ => rfl, fun _ _ => rfl, fun _ _ => ⟨rfl, rfl⟩, fun _ _ => rfl⟩
      obtain ⟨T4, g1, g2, g3⟩ := ent78_L (k := k) (T0 := sA (sA T1 4 k (nI b)) 5 k (nI v)) (by omega) 3 0 n (sA (sA T1 4 k (nI b)) 5 k (nI v)) (by omega) (by omega) T3 (fun u hu => absurd hu (by omega)) hE0
      rw [show m_X9_enters_L78 n (sA (sA T1 4 k (nI b)) 5 k (nI v)) 0 = _ from g1]
      simp only [Option.bind_some]
      have t43 : T4.1 3 + 1 = nI (k + 1) := by rw [g3.1, show (sA (sA T1 4 k (nI b)) 5 k (nI v)).1 3 = nI k from T3, s1]
      rw [t43, s1]
      have r4 : ∀ y, T4.2.1 4 y = if y = k then nI b else T1.2.1 4 y := fun y => by rw [g3.2.2.1 4 (by omega), sA_row (by omega), sA_21, if_pos rfl]
      have r5 : ∀ y, T4.2.1 5 y = if y = k then nI v else T1.2.1 5 y := fun y => by rw [g3.2.2.1 5 (by omega), sA_21, if_pos rfl, sA_row (by omega)]
      have rr : ∀ a, a ≠ 4 → a ≠ 5 → (sA (sA T1 4 k (nI b)) 5 k (nI v)).2.1 a = T1.2.1 a := fun a h4 h5 => by rw [sA_row h5, sA_row h4]
      have hLi2 : ∀ l, l < k + 1 → LifR (sI (sI S1 1 0) 30 (nI (k + 1))) (sI T4 3 (nI (k + 1))) l := fun l hl => by
        by_cases c : l = k
        · subst c
          refine ⟨?_, ?_, ?_, ?_, fun t ht => ?_, fun t ht => ?_⟩
          · show _ = T4.2.1 4 l
            rw [r4, if_pos rfl, sI_ne (by omega), sI_ne (by omega)]; exact e4
          · show Rg (T4.2.1 4 l) 1 200
            rw [r4, if_pos rfl]; unfold Rg; rw [tiN (by omega)]; omega
          · show _ = T4.2.1 5 l
            rw [r5, if_pos rfl, sI_ne (by omega), sI_ne (by omega)]; exact e8
          · show Rg (T4.2.1 5 l) 0 99
            rw [r5, if_pos rfl]; exact Rg.of (n := 99) e10 (by omega)
          · obtain ⟨x1, x2, x3⟩ := g2 t ht
            obtain ⟨_, y1, y2, y3, y4⟩ := e3 t ht
            have z : ∀ w, w < 3 → T4.2.1 9 (3 * (3 * l + t) + w) = T1.2.1 27 (3 * t + w) := fun w hw => by rw [x3 w hw, rr 27 (by omega) (by omega)]
            refine ⟨fun w hw => ?_, ?_, ?_, ?_⟩
            · show S1.2.1 (6 + 3 * l) (3 * t + w) = T4.2.1 9 (3 * (3 * l + t) + w)
              rw [z w hw]; exact y1 w hw
            · show Rg (T4.2.1 9 (3 * (3 * l + t))) 1 40
              have := z 0 (by omega)
              rw [Nat.add_zero, Nat.add_zero] at this
              rw [this]; exact y2
            · show Rg (T4.2.1 9 (3 * (3 * l + t) + 1)) 1 9
              rw [z 1 (by omega)]; exact y3
            · show Rg (T4.2.1 9 (3 * (3 * l + t) + 2)) 0 9
              rw [z 2 (by omega)]; exact y4
          · obtain ⟨x1, x2, x3⟩ := g2 t ht
            obtain ⟨⟨np, n1, n2, n3, n4, n5⟩, _⟩ := e3 t ht
            have z : ∀ j, j < 6 → T4.2.1 7 (6 * (3 * l + t) + j) = T1.2.1 25 (6 * t + j) ∧ T4.2.1 8 (6 * (3 * l + t) + j) = T1.2.1 26 (6 * t + j) := fun j hj => by
              rw [(x2 j hj).1, (x2 j hj).2, rr 25 (by omega) (by omega), rr 26 (by omega) (by omega)]; exact ⟨rfl, rfl⟩
            refine ⟨np, n1, n2, ?_, fun i hi => ?_, fun i hi => ?_, fun x hx1 hx2 => ?_⟩
            · show T4.2.1 6 (3 * l + t) = nI np
              rw [x1, rr 24 (by omega) (by omega)]; exact n3
            · show Rg (T4.2.1 7 (6 * (3 * l + t) + i)) 1 40 ∧ Rg (T4.2.1 8 (6 * (3 * l + t) + i)) 0 1000
              rw [(z i (by omega)).1, (z i (by omega)).2]; exact n4.1 i hi
            · show (T4.2.1 7 (6 * (3 * l + t) + i)).toInt < (T4.2.1 7 (6 * (3 * l + t) + i + 1)).toInt ∧ (T4.2.1 8 (6 * (3 * l + t) + i + 1)).toInt ≤ (T4.2.1 8 (6 * (3 * l + t) + i)).toInt
              rw [show 6 * (3 * l + t) + i + 1 = 6 * (3 * l + t) + (i + 1) by omega, (z i (by omega)).1, (z i (by omega)).2, (z (i + 1) (by omega)).1, (z (i + 1) (by omega)).2]; exact n4.2 i hi
            · show S1.2.1 (5 + 3 * l) (41 * t + x) = tabO np (T4.2.1 7) (T4.2.1 8) (6 * (3 * l + t)) (nI x)
              rw [n5 x hx1 hx2]
              exact (tabO_congr n1 (fun i hi => z i (by omega))).symm
        · obtain ⟨p1, p2, p3, p4, p5, p6⟩ := hLi l (by omega)
          have q4 : T4.2.1 4 l = T1.2.1 4 l := by rw [r4, if_neg c]
          have q5 : T4.2.1 5 l = T1.2.1 5 l := by rw [r5, if_neg c]
          have q6 : ∀ t, t < 3 → T4.2.1 6 (3 * l + t) = T1.2.1 6 (3 * l + t) := fun t ht => by rw [g3.2.2.2.1 _ (by omega), rr 6 (by omega) (by omega)]
          have q7 : ∀ t j, t < 3 → j < 6 → T4.2.1 7 (6 * (3 * l + t) + j) = T1.2.1 7 (6 * (3 * l + t) + j) ∧ T4.2.1 8 (6 * (3 * l + t) + j) = T1.2.1 8 (6 * (3 * l + t) + j) := fun t j ht hj => by
            rw [(g3.2.2.2.2.1 _ (by omega)).1, (g3.2.2.2.2.1 _ (by omega)).2, rr 7 (by omega) (by omega), rr 8 (by omega) (by omega)]; exact ⟨rfl, rfl⟩
          have q9 : ∀ t w, t < 3 → w < 3 → T4.2.1 9 (3 * (3 * l + t) + w) = T1.2.1 9 (3 * (3 * l + t) + w) := fun t w ht hw => by rw [g3.2.2.2.2.2 _ (by omega), rr 9 (by omega) (by omega)]
          refine ⟨?_, ?_, ?_, ?_, fun t ht => ?_, fun t ht => ?_⟩
          · show _ = T4.2.1 4 l
            rw [q4, sI_ne (by omega)]; exact p1
          · show Rg (T4.2.1 4 l) 1 200
            rw [q4]; exact p2
          · show _ = T4.2.1 5 l
            rw [q5, sI_ne (by omega)]; exact p3
          · show Rg (T4.2.1 5 l) 0 99
            rw [q5]; exact p4
          · obtain ⟨y1, y2, y3, y4⟩ := p5 t ht
            refine ⟨fun w hw => ?_, ?_, ?_, ?_⟩
            · show S1.2.1 (6 + 3 * l) (3 * t + w) = T4.2.1 9 (3 * (3 * l + t) + w)
              rw [q9 t w ht hw]; exact y1 w hw
            · show Rg (T4.2.1 9 (3 * (3 * l + t))) 1 40
              have := q9 t 0 ht (by omega)
              rw [Nat.add_zero] at this
              rw [this]; exact y2
            · show Rg (T4.2.1 9 (3 * (3 * l + t) + 1)) 1 9
              rw [q9 t 1 ht (by omega)]; exact y3
            · show Rg (T4.2.1 9 (3 * (3 * l + t) + 2)) 0 9
              rw [q9 t 2 ht (by omega)]; exact y4
          · obtain ⟨np, n1, n2, n3, n4, n5, n6⟩ := p6 t ht
            refine ⟨np, n1, n2, ?_, fun i hi => ?_, fun i hi => ?_, fun x hx1 hx2 => ?_⟩
            · show T4.2.1 6 (3 * l + t) = nI np
              rw [q6 t ht]; exact n3
            · show Rg (T4.2.1 7 (6 * (3 * l + t) + i)) 1 40 ∧ Rg (T4.2.1 8 (6 * (3 * l + t) + i)) 0 1000
              rw [(q7 t i ht (by omega)).1, (q7 t i ht (by omega)).2]; exact n4 i hi
            · show (T4.2.1 7 (6 * (3 * l + t) + i)).toInt < (T4.2.1 7 (6 * (3 * l + t) + i + 1)).toInt ∧ (T4.2.1 8 (6 * (3 * l + t) + i + 1)).toInt ≤ (T4.2.1 8 (6 * (3 * l + t) + i)).toInt
              rw [show 6 * (3 * l + t) + i + 1 = 6 * (3 * l + t) + (i + 1) by omega, (q7 t i ht (by omega)).1, (q7 t i ht (by omega)).2, (q7 t (i + 1) ht (by omega)).1, (q7 t (i + 1) ht (by omega)).2]; exact n5 i hi
            · show S1.2.1 (5 + 3 * l) (41 * t + x) = tabO np (T4.2.1 7) (T4.2.1 8) (6 * (3 * l + t)) (nI x)
              have := n6 x hx1 hx2
              rw [show (sI S1 1 0).2.1 (5 + 3 * l) (41 * t + x) = S1.2.1 (5 + 3 * l) (41 * t + x) from rfl] at this
              rw [this]
              exact (tabO_congr n1 (fun i hi => q7 t i ht (by omega))).symm
      have e31 : (sI (sI S1 1 0) 30 (nI (k + 1))).1 31 = (sI T4 3 (nI (k + 1))).1 10 := by
        rw [sI_ne (by omega), sI_ne (by omega), f1.1 31 (by omega) (by omega) (by omega) (by omega), sI_ne (by omega), g3.1]
        show S.1 31 = T1.1 10
        rw [f2.1 10 (by omega) (by omega) (by omega) (by omega)]; exact hme.2.1
      have e10' : Rg ((sI T4 3 (nI (k + 1))).1 10) 0 300 := by
        rw [sI_ne (by omega), g3.1]
        show Rg (T1.1 10) 0 300
        rw [f2.1 10 (by omega) (by omega) (by omega) (by omega)]; exact h10
      have hRo2 : RowR (sI (sI S1 1 0) 30 (nI (k + 1))) (sI T4 3 (nI (k + 1))) := by
        obtain ⟨t, ht, r1, r2, r3⟩ := hRo
        refine ⟨t, ht, r1, ?_, fun j hj => ?_⟩
        · rw [sI_ne (by omega), g3.1]; exact r2
        · show _ = T4.2.2.1 2 j
          rw [g3.2.1]; exact r3 j hj
      have hTa2 : TapeR (sI (sI S1 1 0) 30 (nI (k + 1))) (sI T4 3 (nI (k + 1))) := by
        refine ⟨0, by omega, rfl, ?_, fun j hj => absurd hj (by omega)⟩
        rw [sI_ne (by omega), g3.1]
        show T1.1 18 = nI 0
        rw [f2.1 18 (by omega) (by omega) (by omega) (by omega)]; rfl
      obtain ⟨S', T', z1, z2, z3, z4, z5⟩ := reopen (S := sI (sI S1 1 0) 30 (nI (k + 1))) (T := sI T4 3 (nI (k + 1))) (oF := oF) (oP := oP) (k := k + 1) (n := n) (by omega) hRf hRo2 hTa2 (by omega) sI_eq sI_eq e31 e10' hLi2 (fun x y hx hy hxy => by
        show T4.2.1 5 x ≠ T4.2.1 5 y
        rw [r5, r5, f2.2.1 5 (by omega)]
        by_cases cx : x = k
        · rw [if_pos cx, if_neg (show ¬ y = k by omega)]
          exact fun q => e11 y (by omega) q.symm
        · rw [if_neg cx]
          by_cases cy : y = k
          · rw [if_pos cy]; exact e11 x (by omega)
          · rw [if_neg cy]; exact hlo x y (by omega) (by omega) hxy)
      rw [z1, z2]
      simp only [Option.bind_some]
      rw [z4, z5]
      exact ⟨_, _, _, rfl, rfl, z3⟩
  · rw [e1, e2]
    simp only [Option.bind_some, b00, if_true]
    rw [hsh S1 sl]
    simp only [Option.bind_some]
    rw [if_neg (nI_pos (by omega)), e3]
    exact ⟨_, _, _, rfl, rfl, hkeep⟩
