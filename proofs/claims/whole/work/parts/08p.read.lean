/-! ===== layer B: enters: signs and numbers ===== -/
def GP (len at' : Nat) (S T : St) : Prop := S.1 1 = nI len ∧ S.1 2 = nI at' ∧ S.1 3 = -1 ∧ T.1 20 = nI len ∧ T.1 19 = nI at' ∧ at' ≤ len ∧ len ≤ 240 ∧ (∀ j, j < len → S.2.1 2 j = T.2.1 17 j ∧ Rg (T.2.1 17 j) 0 255)
def dig (x : Int32) : Bool := decide (48 ≤ x.toInt ∧ x.toInt ≤ 57)
def P23 (S S' : St) : Prop := (∀ i, i ≠ 2 → i ≠ 3 → S'.1 i = S.1 i) ∧ S'.2 = S.2
def Q19 (T T' : St) : Prop := (∀ i, i ≠ 19 → i ≠ 21 → T'.1 i = T.1 i) ∧ T'.2 = T.2
theorem P23.rfl (S : St) : P23 S S := ⟨fun _ _ _ => Eq.refl _, Eq.refl _⟩
theorem P23.trans {S S' S2 : St} (h : P23 S S') (g : P23 S' S2) : P23 S S2 := ⟨fun i a b => (g.1 i a b).trans (h.1 i a b), g.2.trans h.2⟩
theorem P23.at {S S' : St} (h : P23 S S') (v : Int32) : P23 S (sI S' 2 v) := ⟨fun i a b => by rw [sI_ne a]; exact h.1 i a b, h.2⟩
theorem P23.bad {S S' : St} (h : P23 S S') (v : Int32) : P23 S (sI S' 3 v) := ⟨fun i a b => by rw [sI_ne b]; exact h.1 i a b, h.2⟩
theorem Q19.rfl (S : St) : Q19 S S := ⟨fun _ _ _ => Eq.refl _, Eq.refl _⟩
theorem Q19.trans {S S' S2 : St} (h : Q19 S S') (g : Q19 S' S2) : Q19 S S2 := ⟨fun i a b => (g.1 i a b).trans (h.1 i a b), g.2.trans h.2⟩
theorem Q19.at {S S' : St} (h : Q19 S S') (v : Int32) : Q19 S (sI S' 19 v) := ⟨fun i a b => by rw [sI_ne a]; exact h.1 i a b, h.2⟩
theorem Q19.num {S S' : St} (h : Q19 S S') (v : Int32) : Q19 S (sI S' 21 v) := ⟨fun i a b => by rw [sI_ne b]; exact h.1 i a b, h.2⟩
theorem isDigit8 (S : St) (x : Int32) : m_X7_isDigit S x = some (if dig x = true then 1 else 0) := by
  unfold m_X7_isDigit dig
  simp only [lt32, decide_eq_true_eq]
  rw [show Int32.toInt 48 = 48 from rfl, show Int32.toInt 57 = 57 from rfl]
  by_cases c1 : x.toInt < 48
  · rw [if_pos c1, if_neg (by omega)]
  · rw [if_neg c1]
    by_cases c2 : 57 < x.toInt
    · rw [if_pos c2, if_neg (by omega)]
    · rw [if_neg c2, if_pos (by omega)]
theorem isDigit9 {len at' : Nat} {S T : St} (h : GP len at' S T) : m_X9_isDigit T = some (if at' < len ∧ dig (T.2.1 17 at') = true then 1 else 0) := by
  obtain ⟨_, _, _, g4, g5, g6, g7, _⟩ := h
  unfold m_X9_isDigit
  rw [g4, g5, ifleN (by omega) (by omega)]
  by_cases c : len ≤ at'
  · rw [if_pos c, if_neg (by omega)]
  · rw [if_neg c, ckN (by omega) (by omega), clN (by omega), in_eq, t64]
    unfold dig
    rw [show Int64.toInt 48 = 48 from rfl, show Int64.toInt 57 = 57 from rfl]
    simp only [decide_eq_true_eq, Option.bind_some]
    by_cases c2 : 48 ≤ (T.2.1 17 at').toInt ∧ (T.2.1 17 at').toInt ≤ 57
    · rw [if_pos c2, if_neg (by decide), if_pos ⟨by omega, c2⟩]
    · rw [if_neg c2, if_pos rfl, if_neg (fun q => c2 q.2)]
theorem dig_nat {x : Int32} (h : dig x = true) : ∃ g : Nat, g ≤ 9 ∧ x = nI (48 + g) := by
  unfold dig at h
  simp only [decide_eq_true_eq] at h
  obtain ⟨a, ha, ea⟩ := (show Rg x 0 57 from ⟨by omega, h.2⟩).nat (n := 57)
  rw [ea, tiN (by omega)] at h
  exact ⟨a - 48, by omega, by rw [ea]; congr 1; omega⟩
theorem sign_same {len at' : Nat} {S T : St} (h : GP len at' S T) (c : Int32) :
    (∃ S' T', m_X7_readSign S c = some S' ∧ m_X9_takes T c = some (1, T') ∧ GP len (at' + 1) S' T' ∧ P23 S S' ∧ Q19 T T' ∧ T'.1 21 = T.1 21) ∨ (∃ S', m_X7_readSign S c = some S' ∧ m_X9_takes T c = some (0, T) ∧ S'.1 3 = nI at' ∧ P23 S S') := by
  obtain ⟨g1, g2, g3, g4, g5, g6, g7, g8⟩ := id h
  unfold m_X7_readSign m_X9_takes
  simp only [nmE]
  rw [g1, g2, g3, g4, g5, if_pos (by decide), ifleN (by omega) (by omega), ifleN (by omega) (by omega)]
  by_cases c1 : len ≤ at'
  · rw [if_pos c1, if_pos c1]
    exact Or.inr ⟨_, rfl, rfl, sI_eq, (P23.rfl S).bad _⟩
  · rw [if_neg c1, if_neg c1, ckN (by omega) (by omega), ckN (by omega) (by omega), clN (by omega), (g8 at' (by omega)).1, s1]
    by_cases c2 : T.2.1 17 at' = c
    · rw [if_pos c2, if_pos c2]
      refine Or.inl ⟨_, _, rfl, rfl, ⟨?_, sI_eq, ?_, ?_, sI_eq, by omega, g7, g8⟩, (P23.rfl S).at _, (Q19.rfl T).at _, sI_ne (by omega)⟩
      · rw [sI_ne (by omega)]; exact g1
      · rw [sI_ne (by omega)]; exact g3
      · rw [sI_ne (by omega)]; exact g4
    · rw [if_neg c2, if_neg c2]
      exact Or.inr ⟨_, rfl, rfl, sI_eq, (P23.rfl S).bad _⟩
theorem num_L {len start : Nat} {lo hi : Int32} : ∀ d cnt n n' S T v, cnt + d = 4 → GP len (start + cnt) S T → T.1 21 = nI v → v + 1 ≤ 10 ^ cnt → (2 ≤ cnt → 1 ≤ v) → d + 1 ≤ n → d + 1 ≤ n' →
    ∃ S' T' at2 v', m_X7_readNumber_L17 n S lo hi (nI start) (nI v) = some (S', nI v') ∧ m_X9_readsNumber_L16 n' T lo hi (nI cnt) = some T' ∧ GP len at2 S' T' ∧ T'.1 21 = nI v' ∧ start + cnt ≤ at2 ∧ v' ≤ 9999 ∧ P23 S S' ∧ Q19 T T' ∧ (cnt = 0 → start < len → dig (T.2.1 17 start) = true → start < at2) := by
  intro d
  induction d with
  | zero =>
    intro cnt n n' S T v hcd h e21 hv h2 hn hn'
    obtain ⟨m, rfl⟩ : ∃ m, n = m + 1 := ⟨n - 1, by omega⟩
    obtain ⟨m', rfl⟩ : ∃ m, n' = m + 1 := ⟨n' - 1, by omega⟩
    have hcnt : cnt = 4 := by omega
    subst hcnt
    obtain ⟨g1, g2, g3, g4, g5, g6, g7, g8⟩ := id h
    have hv4 : v ≤ 9999 := by have : (10 : Nat) ^ 4 = 10000 := rfl; omega
    refine ⟨S, T, start + 4, v, ?_, ?_, h, e21, by omega, hv4, P23.rfl S, Q19.rfl T, fun q => absurd q (by omega)⟩
    · unfold m_X7_readNumber_L17
      rw [g1, g2, show nI start + 4 = nI (start + 4) by rw [lit32 4, nI_add], if_pos (show nI (start + 4) ≤ nI (start + 4) by rw [leN (by omega) (by omega)]; omega)]
      split <;> rfl
    · unfold m_X9_readsNumber_L16
      rw [isDigit9 h, lit32 4]
      simp only [Option.bind_some]
      rw [if_pos (show nI 4 ≤ nI 4 by rw [leN (by omega) (by omega)]; omega)]
      split <;> rfl
  | succ d ih =>
    intro cnt n n' S T v hcd h e21 hv h2 hn hn'
    obtain ⟨m, rfl⟩ : ∃ m, n = m + 1 := ⟨n - 1, by omega⟩
    obtain ⟨m', rfl⟩ : ∃ m, n' = m + 1 := ⟨n' - 1, by omega⟩
    obtain ⟨g1, g2, g3, g4, g5, g6, g7, g8⟩ := id h
    have hp : (10 : Nat) ^ cnt ≤ 10 ^ 3 := Nat.pow_le_pow_right (by omega) (by omega)
    have hp3 : (10 : Nat) ^ 3 = 1000 := rfl
    have hstop : ∀ (A : Option (St × Int32)) (B : Option St), A = some (S, nI v) → B = some T → (cnt = 0 → start < len → dig (T.2.1 17 start) = true → False) → ∃ S' T' at2 v', A = some (S', nI v') ∧ B = some T' ∧ GP len at2 S' T' ∧ T'.1 21 = nI v' ∧ start + cnt ≤ at2 ∧ v' ≤ 9999 ∧ P23 S S' ∧ Q19 T T' ∧ (cnt = 0 → start < len → dig (T.2.1 17 start) = true → start < at2) :=
      fun A B hA hB hc => ⟨S, T, start + cnt, v, hA, hB, h, e21, by omega, by omega, P23.rfl S, Q19.rfl T, fun a b c => (hc a b c).elim⟩
    unfold m_X7_readNumber_L17 m_X9_readsNumber_L16
    rw [isDigit9 h, g1, g2, ifleN (by omega) (by omega)]
    simp only [Option.bind_some]
    by_cases c1 : len ≤ start + cnt
    · apply hstop
      · rw [if_pos c1]
      · rw [if_neg (show ¬ (start + cnt < len ∧ dig (T.2.1 17 (start + cnt)) = true) by omega), if_pos rfl]
      · intro q1 q2; omega
    · rw [if_neg c1, show nI start + 4 = nI (start + 4) by rw [lit32 4, nI_add], ifleN (by omega) (by omega), if_neg (show ¬ start + 4 ≤ start + cnt by omega), ckN (by omega) (by omega), ckN (by omega) (by omega), clN (by omega), (g8 (start + cnt) (by omega)).1, isDigit8]
      simp only [Option.bind_some]
      by_cases c2 : dig (T.2.1 17 (start + cnt)) = true
      · obtain ⟨g, hg, eg⟩ := dig_nat c2
        rw [if_pos c2, if_neg (show ¬ (1 : Int32) = 0 by decide), if_pos (show start + cnt < len ∧ dig (T.2.1 17 (start + cnt)) = true from ⟨by omega, c2⟩), if_neg (show ¬ (1 : Int32) = 0 by decide), lit32 4, ifleN (by omega) (by omega), if_neg (show ¬ 4 ≤ cnt by omega), s1, ifeqN (by omega) (by omega), if0N (by omega), if0N (by omega)]
        simp only [nmE]
        rw [g5, ckN (by omega) (by omega), clN (by omega), e21, ifle0N (by omega), eg]
        have ev1 : nI v * 10 + nI (48 + g) - 48 = nI (10 * v + g) := by
          rw [lit32 10, lit32 48, pk_mul, nI_add, subN (by omega)]; congr 1; omega
        have ev2 : 10 * nI v + nI (48 + g) - 48 = nI (10 * v + g) := by
          rw [lit32 10, lit32 48, pk_mul, nI_add, subN (by omega)]; congr 1; omega
        rw [ev1, ev2]
        have hgo : ∃ S' T' at2 v', m_X7_readNumber_L17 m (sI S 2 (nI (start + cnt) + 1)) lo hi (nI start) (nI (10 * v + g)) = some (S', nI v') ∧ m_X9_readsNumber_L16 m' (sI (sI T 21 (nI (10 * v + g))) 19 ((sI T 21 (nI (10 * v + g))).1 19 + 1)) lo hi (nI cnt + 1) = some T' ∧ GP len at2 S' T' ∧ T'.1 21 = nI v' ∧ start + cnt ≤ at2 ∧ v' ≤ 9999 ∧ P23 S S' ∧ Q19 T T' ∧ (cnt = 0 → start < len → dig (T.2.1 17 start) = true → start < at2) ∨ (2 ≤ cnt + 1 ∧ ¬ 1 ≤ 10 * v + g) := by
          by_cases cc : 2 ≤ cnt + 1 ∧ ¬ 1 ≤ 10 * v + g
          · exact ⟨S, T, 0, 0, Or.inr cc⟩
          · have e19 : (sI T 21 (nI (10 * v + g))).1 19 + 1 = nI (start + (cnt + 1)) := by rw [sI_ne (by omega), g5, s1]; rfl
            have hG : GP len (start + (cnt + 1)) (sI S 2 (nI (start + cnt) + 1)) (sI (sI T 21 (nI (10 * v + g))) 19 ((sI T 21 (nI (10 * v + g))).1 19 + 1)) := by
              refine ⟨?_, ?_, ?_, ?_, ?_, by omega, g7, g8⟩
              · rw [sI_ne (by omega)]; exact g1
              · rw [sI_eq, s1]; rfl
              · rw [sI_ne (by omega)]; exact g3
              · rw [sI_ne (by omega), sI_ne (by omega)]; exact g4
              · rw [sI_eq]; exact e19
            obtain ⟨S', T', at2, v', r1, r2, r3, r4, r5, r6, r7, r8, r9⟩ := ih (cnt + 1) m m' _ _ (10 * v + g) (by omega) hG (by rw [sI_ne (by omega), sI_eq]) (by rw [Nat.pow_succ]; omega) (fun q => by omega) (by omega) (by omega)
            refine ⟨S', T', at2, v', Or.inl ⟨r1, ?_, r3, r4, by omega, r6, ((P23.rfl S).at _).trans r7, (((Q19.rfl T).num _).at _).trans r8, fun _ _ _ => by omega⟩⟩
            rw [s1]; exact r2
        obtain ⟨S', T', at2, v', hgo⟩ := hgo
        by_cases cA : cnt = 0
        · rw [if_neg (show ¬ start + cnt = start + 1 by omega), if_pos cA]
          rcases hgo with r | r
          · exact ⟨S', T', at2, v', r⟩
          · omega
        · rw [if_neg cA]
          by_cases cB : cnt = 1
          · rw [if_pos (show start + cnt = start + 1 by omega)]
            by_cases cC : v = 0
            · rw [if_pos cC, if_pos (show v ≤ 0 by omega)]
              exact hstop _ _ rfl rfl (fun q => absurd q cA)
            · rw [if_neg cC, if_neg (show ¬ v ≤ 0 by omega)]
              rcases hgo with r | r
              · exact ⟨S', T', at2, v', r⟩
              · omega
          · rw [if_neg (show ¬ start + cnt = start + 1 by omega), if_neg (show ¬ v ≤ 0 by have := h2 (by omega); omega)]
            rcases hgo with r | r
            · exact ⟨S', T', at2, v', r⟩
            · have := h2 (by omega); omega
      · rw [if_neg c2, if_pos rfl, if_neg (show ¬ (start + cnt < len ∧ dig (T.2.1 17 (start + cnt)) = true) from fun q => c2 q.2), if_pos rfl]
        refine hstop _ _ rfl rfl (fun q1 q2 q3 => c2 ?_)
        rw [q1]; exact q3
/-- both read a number -/
theorem num_same {len at' lo hi n n' : Nat} {S T : St} (h : GP len at' S T) (hhi : hi ≤ 1000) (hlo : lo ≤ 100) (hn : 5 ≤ n) (hn' : 5 ≤ n') :
    (∃ S' T' at2 v, m_X7_readNumber n S (nI lo) (nI hi) = some (nI v, S') ∧ m_X9_readsNumber n' T (nI lo) (nI hi) = some (1, T') ∧ GP len at2 S' T' ∧ T'.1 21 = nI v ∧ lo ≤ v ∧ v ≤ hi ∧ P23 S S' ∧ Q19 T T' ∧ 1 ≤ at2) ∨
    (∃ S' T' v p, m_X7_readNumber n S (nI lo) (nI hi) = some (v, S') ∧ m_X9_readsNumber n' T (nI lo) (nI hi) = some (0, T') ∧ S'.1 3 = nI p ∧ T'.1 19 = nI p ∧ p ≤ 240 ∧ P23 S S' ∧ Q19 T T') := by
  obtain ⟨g1, g2, g3, g4, g5, g6, g7, g8⟩ := id h
  unfold m_X7_readNumber m_X9_readsNumber
  simp only [nmE]
  have hG : GP len (at' + 0) S (sI T 21 0) := ⟨g1, g2, g3, by rw [sI_ne (by omega)]; exact g4, by rw [sI_ne (by omega)]; exact g5, g6, g7, g8⟩
  obtain ⟨S', T', at2, v', r1, r2, r3, r4, r5, r6, r7, r8, r9⟩ := num_L (lo := nI lo) (hi := nI hi) 4 0 n n' S (sI T 21 0) 0 (by omega) hG sI_eq (by decide) (fun q => absurd q (by omega)) (by omega) (by omega)
  rw [g3, if_pos (by decide), g2, show m_X7_readNumber_L17 n S (nI lo) (nI hi) (nI at') 0 = _ from r1, isDigit9 h]
  simp only [Option.bind_some]
  obtain ⟨k1, k2, k3, k4, k5, k6, k7, k8⟩ := id r3
  rw [k2, ifeqN (by omega) (by omega)]
  by_cases cd : at' < len ∧ dig (T.2.1 17 at') = true
  · have hlt : at' < at2 := r9 rfl cd.1 cd.2
    rw [if_neg (show ¬ at2 = at' by omega), if_pos cd, if_neg (show ¬ (1 : Int32) = 0 by decide), show m_X9_readsNumber_L16 n' (sI T 21 0) (nI lo) (nI hi) 0 = _ from r2]
    simp only [Option.bind_some]
    rw [in_eq, t64, t64, t64, r4, tiN (by omega), tiN (by omega), tiN (by omega)]
    simp only [Option.bind_some]
    rw [ifltN (by omega) (by omega), ifleN (by omega) (by omega), k5]
    have hQ := ((Q19.rfl T).num 0).trans r8
    have e1 : nI at2 - 1 = nI (at2 - 1) := by rw [lit32 1, subN (by omega)]
    rw [e1]
    by_cases c1 : v' < lo
    · rw [if_pos c1, if_neg (show ¬ ((lo : Int) ≤ (v' : Int) ∧ (v' : Int) ≤ (hi : Int)) by omega), if_pos rfl]
      exact Or.inr ⟨_, _, _, at2 - 1, rfl, rfl, sI_eq, sI_eq, by omega, r7.bad _, hQ.at _⟩
    · rw [if_neg c1]
      by_cases c2 : v' ≤ hi
      · rw [if_pos c2, if_pos (show (lo : Int) ≤ (v' : Int) ∧ (v' : Int) ≤ (hi : Int) by omega), if_neg (show ¬ (1 : Int32) = 0 by decide)]
        exact Or.inl ⟨_, _, at2, v', rfl, rfl, r3, r4, by omega, c2, r7, hQ, by omega⟩
      · rw [if_neg c2, if_neg (show ¬ ((lo : Int) ≤ (v' : Int) ∧ (v' : Int) ≤ (hi : Int)) by omega), if_pos rfl]
        exact Or.inr ⟨_, _, _, at2 - 1, rfl, rfl, sI_eq, sI_eq, by omega, r7.bad _, hQ.at _⟩
  · have hst : m_X7_readNumber_L17 n S (nI lo) (nI hi) (nI at') (nI 0) = some (S, nI 0) := by
      obtain ⟨m, rfl⟩ : ∃ m, n = m + 1 := ⟨n - 1, by omega⟩
      unfold m_X7_readNumber_L17
      rw [g1, g2, ifleN (by omega) (by omega)]
      by_cases c1 : len ≤ at'
      · rw [if_pos c1]
      · rw [if_neg c1, show nI at' + 4 = nI (at' + 4) by rw [lit32 4, nI_add], ifleN (by omega) (by omega), if_neg (show ¬ at' + 4 ≤ at' by omega), ckN (by omega) (by omega), clN (by omega), (g8 at' (by omega)).1, isDigit8]
        simp only [Option.bind_some]
        rw [if_neg (show ¬ dig (T.2.1 17 at') = true from fun q => cd ⟨by omega, q⟩), if_pos rfl]
    rw [hst] at r1
    have e := Option.some.inj r1
    have e1 : S = S' := congrArg Prod.fst e
    have e2 : at' = at2 := by
      have : S.1 2 = S'.1 2 := by rw [← e1]
      rw [g2, k2, eqN (by omega) (by omega)] at this
      exact this
    rw [if_neg cd, if_pos rfl, if_pos (show at2 = at' from e2.symm), ← e2]
    exact Or.inr ⟨_, _, _, at', rfl, rfl, sI_eq, g5, by omega, r7.bad _, Q19.rfl T⟩
/-- the class's next sign is a digit, the reference has failed there -/
def DP (len p : Nat) (S : St) : Prop := S.1 1 = nI len ∧ S.1 2 = nI p ∧ S.1 3 = -1 ∧ p < len ∧ len ≤ 240 ∧ dig (S.2.1 2 p) = true
/-- what comes of a number that nothing but another sign may follow -/
theorem tnum_same {len at' lo hi n n' : Nat} {S T : St} (h : GP len at' S T) (hhi : hi ≤ 1000) (hlo : lo ≤ 100) (hn : 5 ≤ n) (hn' : 5 ≤ n') :
    (∃ S' T' at2 v, m_X7_readNumber n S (nI lo) (nI hi) = some (nI v, S') ∧ m_X9_takesNumber n' T (nI lo) (nI hi) = some (1, T') ∧ GP len at2 S' T' ∧ T'.1 21 = nI v ∧ lo ≤ v ∧ v ≤ hi ∧ P23 S S' ∧ Q19 T T' ∧ 1 ≤ at2) ∨
    (∃ S' T' v p, m_X7_readNumber n S (nI lo) (nI hi) = some (nI v, S') ∧ m_X9_takesNumber n' T (nI lo) (nI hi) = some (0, T') ∧ DP len p S' ∧ T'.1 19 = nI p ∧ p ≤ 240 ∧ lo ≤ v ∧ v ≤ hi ∧ P23 S S' ∧ Q19 T T') ∨
    (∃ S' T' v p, m_X7_readNumber n S (nI lo) (nI hi) = some (v, S') ∧ m_X9_takesNumber n' T (nI lo) (nI hi) = some (0, T') ∧ S'.1 3 = nI p ∧ T'.1 19 = nI p ∧ p ≤ 240 ∧ P23 S S' ∧ Q19 T T') := by
  unfold m_X9_takesNumber
  rcases num_same (n := n) (n' := n') h hhi hlo hn hn' with ⟨S', T', at2, v, r1, r2, r3, r4, r5, r6, r7, r8, r9⟩ | ⟨S', T', v, p, r1, r2, r3, r4, r5, r6, r7⟩
  · rw [r1, r2]
    simp only [Option.bind_some, b10, if_false]
    rw [isDigit9 r3]
    simp only [Option.bind_some]
    obtain ⟨k1, k2, k3, k4, k5, k6, k7, k8⟩ := id r3
    by_cases c : at2 < len ∧ dig (T'.2.1 17 at2) = true
    · rw [if_pos c, if_neg (show ¬ (1 : Int32) = 0 by decide)]
      exact Or.inr (Or.inl ⟨S', T', v, at2, rfl, rfl, ⟨k1, k2, k3, c.1, k7, by rw [(k8 at2 c.1).1]; exact c.2⟩, k5, by omega, r5, r6, r7, r8⟩)
    · rw [if_neg c, if_pos rfl]
      exact Or.inl ⟨S', T', at2, v, rfl, rfl, r3, r4, r5, r6, r7, r8, r9⟩
  · rw [r1, r2]
    simp only [Option.bind_some, b00, if_true]
    exact Or.inr (Or.inr ⟨S', T', v, p, rfl, rfl, r3, r4, r5, r6, r7⟩)
theorem bad_sign {S : St} {p : Nat} (h : S.1 3 = nI p) (hp : p ≤ 240) (c : Int32) : m_X7_readSign S c = some S := by
  unfold m_X7_readSign
  rw [h, if_neg (nI_pos (by omega))]
theorem bad_num {S : St} {p n : Nat} (h : S.1 3 = nI p) (hp : p ≤ 240) (a b : Int32) : m_X7_readNumber n S a b = some (0, S) := by
  unfold m_X7_readNumber
  rw [h, if_neg (nI_pos (by omega))]
theorem dead_sign {S : St} {len p : Nat} (h : DP len p S) {c : Nat} (hc : c < 48 ∨ 57 < c) (hc2 : c < 256) : ∃ S', m_X7_readSign S (nI c) = some S' ∧ S'.1 3 = nI p ∧ P23 S S' := by
  obtain ⟨k1, k2, k3, k4, k5, k6⟩ := h
  unfold m_X7_readSign
  simp only [nmE]
  rw [k1, k2, k3, if_pos (by decide), ifleN (by omega) (by omega), if_neg (by omega), ckN (by omega) (by omega), clN (by omega)]
  obtain ⟨g, hg, eg⟩ := dig_nat k6
  rw [eg, ifeqN (by omega) (by omega), if_neg (by omega)]
  exact ⟨_, rfl, sI_eq, (P23.rfl S).bad _⟩
