/-! ===== layer B: what is read off ===== -/
theorem VR.own {ib ab k : Nat} {S T : St} (h : VR ib ab k S T) {l : Nat} (hl : l < k) : Rg (mt T l 0) 0 40 ∧ Rg (mt T l 2) 0 40 ∧ Rg (mt T l 3) 0 1 ∧ Rg (mt T l 4) 0 3 ∧ Rg (mt T l 5) 0 2 ∧ Rg (mt T l 6) 0 1 ∧ (Rg (mt T l 7) 0 40 ∧ Rg (mt T l 8) 0 40 ∧ Rg (mt T l 9) 0 40) ∧ (mt T l 1 = 0 ∨ mt T l 1 = 1) := by
  obtain ⟨hk, h3, h10, hli, hlo, hme, lift, round, done, g1, g2, g3, g4, g5, g6, g7, g8, g9, g10, g11, g12, g13, g14, g15⟩ := h
  obtain ⟨q0, q2, q3, q4, q5, q6, q7, _⟩ := g15 l hl
  exact ⟨q0, q2, q3, q4, q5, q6, ⟨q7 0 (by omega), q7 1 (by omega), q7 2 (by omega)⟩, g14.1 l hl⟩
theorem Rg.nat1 {x : Int32} {n : Nat} (h : Rg x 1 n) : ∃ a : Nat, 1 ≤ a ∧ a ≤ n ∧ x = nI a := by
  have h0 : Rg x 0 n := ⟨by have := h.1; omega, h.2⟩
  obtain ⟨a, h1, h2⟩ := h0.nat
  refine ⟨a, ?_, h1, h2⟩
  have h3 := h.1
  have h4 := Int32.toInt_lt x
  have h5 := h.2
  rw [h2] at h3
  by_cases c : a = 0
  · subst c; exact absurd h3 (by decide)
  · omega
theorem rg01 {x : Int32} (h : Rg x 0 1) : x = 0 ∨ x = 1 := by
  obtain ⟨a, ha, rfl⟩ := h.nat (n := 1)
  rcases Nat.lt_or_ge a 1 with c | c
  · left; rw [show a = 0 by omega]; rfl
  · right; rw [show a = 1 by omega]; rfl
def its (T : St) (l : Nat) : Int32 := if mt T l 2 = 0 then 1 else mt T l 2 + mt T l 3
def lst (T : St) (l : Nat) : Int32 := if mt T l 0 = 0 then 0 else if mt T l 1 = 0 then mx (its T l) (T.2.1 11 2) else its T l
def sm (T : St) (l : Nat) : Int32 := if mt T l 6 = 1 then 0 else mt T l 7 + mt T l 8 + mt T l 9
theorem VR.bar {ib ab k : Nat} {S T : St} (h : VR ib ab k S T) : S.1 (ib + 4) = T.2.1 11 2 := h.2.2.2.2.2.1.2.2.2.2.1
theorem VR.lift {ib ab k : Nat} {S T : St} (h : VR ib ab k S T) : S.1 (ib + 2) = T.2.1 11 0 := h.2.2.2.2.2.1.2.2.1
theorem VR.round {ib ab k : Nat} {S T : St} (h : VR ib ab k S T) : S.1 (ib + 3) = T.2.1 11 1 := h.2.2.2.2.2.1.2.2.2.1
theorem VR.tire {ib ab k : Nat} {S T : St} (h : VR ib ab k S T) : S.1 (ib + 1) = T.1 10 := h.2.2.2.2.2.1.2.1
theorem least8 {ib ab k l : Nat} {S T : St} (h : VR ib ab k S T) (hl : l < k) : m_X4_leastOf ib ab S (nI l) = some (lst T l) := by
  have hk := h.1
  obtain ⟨c1, c2, c3, c4, c5, c6, c7⟩ := h.cell hl
  unfold m_X4_leastOf lst
  rw [ckN (by omega) (by omega), ckN (by omega) (by omega), ckN (by omega) (by omega), ckN (by omega) (by omega), clN (by omega), c1, c2, c6, h.bar]
  by_cases q1 : mt T l 0 = 0
  · rw [if_pos q1, if_pos q1]
  · rw [if_neg q1, if_neg q1]
    by_cases q2 : mt T l 1 = 0
    · rw [if_pos q2, if_pos q2]; rfl
    · rw [if_neg q2, if_neg q2]; rfl
theorem least9 {k l : Nat} {T : St} (h : RT k T) (hl : l < k) : m_X9_leastOf T (nI l) = some (lst T l) := by
  have hk := h.1
  obtain ⟨_, h5, h6⟩ := h.2.2 l hl
  unfold m_X9_leastOf lst its
  rw [of0 (by omega), of1 (by omega), of2 (by omega), of3 (by omega), isOut_eq (by omega), isOver_eq]
  simp only [Option.bind_some]
  by_cases q1 : mt T l 0 = 0
  · rw [if_pos q1, if_pos q1]
  · rw [if_neg q1, if_neg q1, if_neg (fun q => q1 (h5 q)), if_neg (fun q => q1 (h6 q)), if_pos rfl, if_pos rfl]
    by_cases q2 : mt T l 2 = 0
    · simp only [q2, if_true, Option.bind_some]
      by_cases q3 : mt T l 1 = 0
      · rw [if_pos q3, if_pos q3]; rfl
      · rw [if_neg q3, if_neg q3]
    · simp only [q2, if_false, Option.bind_some]
      by_cases q3 : mt T l 1 = 0
      · rw [if_pos q3, if_pos q3]; rfl
      · rw [if_neg q3, if_neg q3]
theorem sum9 {l : Nat} {T : St} (hl : l < 6) : m_X9_sumOf T (nI l) = some (sm T l) := by
  unfold m_X9_sumOf sm
  rw [of7 hl, of8 hl, of9 hl, isOut_eq hl]
  by_cases q : mt T l 6 = 1
  · simp only [q, if_true, Option.bind_some, b10, if_false]
  · simp only [q, if_false, Option.bind_some, b00, if_true]
theorem sum8 {ib ab k l : Nat} {S T : St} (h : VR ib ab k S T) (hl : l < k) : m_X4_sumOf ib ab S (nI l) = some (sm T l) := by
  have hk := h.1
  obtain ⟨c1, c2, c3, c4, c5, c6, c7⟩ := h.cell hl
  unfold m_X4_sumOf sm
  rw [ckN (by omega) (by omega), clN (by omega), c4]
  rw [show nI l * 3 = nI (3 * l) by rw [lit32 3, pk_mul, Nat.mul_comm], show nI (3 * l) + 1 = nI (3 * l + 1) by rw [lit32 1, nI_add], show nI (3 * l) + 2 = nI (3 * l + 2) by rw [lit32 2, nI_add]]
  rw [ckN (by omega) (by omega), ckN (by omega) (by omega), ckN (by omega) (by omega), clN (by omega), clN (by omega), clN (by omega), show S.2.1 (ab + 5) (3 * l) = mt T l 7 from c7 0 (by omega), c7 1 (by omega), c7 2 (by omega)]
  rcases rg01 (h.own hl).2.2.2.2.2.1 with q | q
  · rw [q, if_pos rfl, if_neg (by decide)]
  · rw [q, if_neg (by decide), if_pos rfl]
theorem sm_rg {a b c : Int32} (ha : Rg a 0 40) (hb : Rg b 0 40) (hc : Rg c 0 40) : Rg (a + b + c) 0 120 := by
  obtain ⟨x, hx, rfl⟩ := ha.nat (n := 40)
  obtain ⟨y, hy, rfl⟩ := hb.nat (n := 40)
  obtain ⟨z, hz, rfl⟩ := hc.nat (n := 40)
  rw [nI_add, nI_add]
  exact Rg.of (n := 120) (by omega) (by omega)
/-- what the places rest on -/
def PT (k : Nat) (T : St) : Prop := k ≤ 6 ∧ T.1 3 = nI k ∧ ∀ l, l < k → Rg (mt T l 6) 0 1 ∧ Rg (sm T l) 0 120 ∧ Rg (T.2.1 4 l) 1 200 ∧ Rg (T.2.1 5 l) 0 99
def tru (_ : Nat) : Bool := true
def pkk (T : St) (l : Nat) : Int := (mt T l 6).toInt * 1000000000 - (sm T l).toInt * 100000 + (T.2.1 4 l).toInt * 100 + (T.2.1 5 l).toInt
theorem VR.smr {ib ab k : Nat} {S T : St} (h : VR ib ab k S T) {l : Nat} (hl : l < k) : Rg (sm T l) 0 120 := by
  obtain ⟨_, _, _, _, _, _, ⟨q7, q8, q9⟩, _⟩ := h.own hl
  unfold sm
  split
  · exact ⟨by decide, by decide⟩
  · exact sm_rg q7 q8 q9
theorem VR.pt {ib ab k : Nat} {S T : St} (h : VR ib ab k S T) : PT k T := ⟨h.1, h.2.1, fun l hl => ⟨(h.own hl).2.2.2.2.2.1, h.smr hl, (h.2.2.2.1 l hl).2.1, (h.2.2.2.1 l hl).2.2.2.1⟩⟩
theorem lighter9 {a b : Nat} {T : St} (ha : a < 6) (hb : b < 6) (h1 : Rg (T.2.1 5 a) 0 99) (h2 : Rg (T.2.1 5 b) 0 99) : m_X9_isLighter T (nI a) (nI b) = some (if (T.2.1 4 a).toInt * 100 + (T.2.1 5 a).toInt < (T.2.1 4 b).toInt * 100 + (T.2.1 5 b).toInt then 1 else 0) := by
  unfold m_X9_isLighter
  rw [ckN ha (by omega), ckN hb (by omega), ckN ha (by omega), ckN hb (by omega), ckN ha (by omega), ckN hb (by omega), clN (by omega), clN (by omega)]
  simp only [lt32, le32, eq32]
  have q1 := h1.1; have q2 := h1.2; have q3 := h2.1; have q4 := h2.2
  by_cases c1 : (T.2.1 4 a).toInt < (T.2.1 4 b).toInt
  · rw [if_pos c1, if_pos (by omega)]
  · rw [if_neg c1]
    by_cases c2 : (T.2.1 4 a).toInt = (T.2.1 4 b).toInt
    · rw [if_pos c2]
      by_cases c3 : (T.2.1 5 b).toInt ≤ (T.2.1 5 a).toInt
      · rw [if_pos c3, if_neg (by omega)]
      · rw [if_neg c3, if_pos (by omega)]
    · rw [if_neg c2, if_neg (by omega)]
theorem leads8 {ib ab k : Nat} {S T : St} (h : VR ib ab k S T) {a b : Nat} (ha : a < k) (hb : b < k) : m_X3_leadsLike S a b = some (if (T.2.1 4 a).toInt * 100 + (T.2.1 5 a).toInt < (T.2.1 4 b).toInt * 100 + (T.2.1 5 b).toInt then 1 else 0) := by
  have h1 := (h.2.2.2.1 a ha).2.2.2.1
  have h2 := (h.2.2.2.1 b hb).2.2.2.1
  unfold m_X3_leadsLike
  rw [h.lot ha, h.lot hb, (h.2.2.2.1 a ha).1, (h.2.2.2.1 b hb).1]
  simp only [lt32, le32, eq32]
  have q1 := h1.1; have q2 := h1.2; have q3 := h2.1; have q4 := h2.2
  by_cases c2 : (T.2.1 4 a).toInt = (T.2.1 4 b).toInt
  · rw [if_pos c2]
    by_cases c3 : (T.2.1 5 b).toInt ≤ (T.2.1 5 a).toInt
    · rw [if_pos c3, if_neg (by omega)]
    · rw [if_neg c3, if_pos (by omega)]
  · rw [if_neg c2]
    by_cases c3 : (T.2.1 4 b).toInt ≤ (T.2.1 4 a).toInt
    · rw [if_pos c3, if_neg (by omega)]
    · rw [if_neg c3, if_pos (by omega)]
theorem ahead9 {k a b : Nat} {T : St} (h : PT k T) (ha : a < k) (hb : b < k) : m_X9_isAhead T (nI a) (nI b) = some (if pkk T a < pkk T b then 1 else 0) := by
  obtain ⟨hk, _, h4⟩ := h
  obtain ⟨a1, a2, a3, a4⟩ := h4 a ha
  obtain ⟨b1, b2, b3, b4⟩ := h4 b hb
  unfold m_X9_isAhead pkk
  rw [isOut_eq (by omega), isOut_eq (by omega), sum9 (by omega), sum9 (by omega), lighter9 (by omega) (by omega) a4 b4]
  have q1 := a2.1; have q2 := a2.2; have q3 := b2.1; have q4 := b2.2
  have q5 := a3.1; have q6 := a3.2; have q7 := b3.1; have q8 := b3.2
  have q9 := a4.1; have q10 := a4.2; have q11 := b4.1; have q12 := b4.2
  have i0 : Int32.toInt 0 = 0 := rfl
  have i1 : Int32.toInt 1 = 1 := rfl
  have main : (mt T a 6).toInt = (mt T b 6).toInt → ((some (sm T a)).bind fun r6 => (some (sm T b)).bind fun r8 => if r8 < r6 then some (1 : Int32) else (some (sm T a)).bind fun r11 => (some (sm T b)).bind fun r13 => if r11 = r13 then (some (if (T.2.1 4 a).toInt * 100 + (T.2.1 5 a).toInt < (T.2.1 4 b).toInt * 100 + (T.2.1 5 b).toInt then (1 : Int32) else 0)).bind fun r16 => if r16 = 0 then some 0 else some 1 else some 0) = some (if (mt T a 6).toInt * 1000000000 - (sm T a).toInt * 100000 + (T.2.1 4 a).toInt * 100 + (T.2.1 5 a).toInt < (mt T b 6).toInt * 1000000000 - (sm T b).toInt * 100000 + (T.2.1 4 b).toInt * 100 + (T.2.1 5 b).toInt then 1 else 0) := by
    intro e
    simp only [Option.bind_some]
    by_cases c1 : (sm T b).toInt < (sm T a).toInt
    · rw [if_pos (by rw [lt32]; exact c1), if_pos (by omega)]
    · rw [if_neg (by rw [lt32]; exact c1)]
      by_cases c2 : (sm T a).toInt = (sm T b).toInt
      · rw [if_pos (by rw [eq32]; exact c2)]
        by_cases c3 : (T.2.1 4 a).toInt * 100 + (T.2.1 5 a).toInt < (T.2.1 4 b).toInt * 100 + (T.2.1 5 b).toInt
        · rw [if_pos c3, if_neg (by decide), if_pos (by omega)]
        · rw [if_neg c3, if_pos rfl, if_neg (by omega)]
      · rw [if_neg (by rw [eq32]; exact c2), if_neg (by omega)]
  rcases rg01 a1 with ea | ea <;> rcases rg01 b1 with eb | eb
  · rw [ea, eb] at main ⊢; exact main rfl
  · have c4 : (0 : Int) * 1000000000 - (sm T a).toInt * 100000 + (T.2.1 4 a).toInt * 100 + (T.2.1 5 a).toInt < 1 * 1000000000 - (sm T b).toInt * 100000 + (T.2.1 4 b).toInt * 100 + (T.2.1 5 b).toInt := by omega
    rw [ea, eb, i0, i1, if_pos c4]; rfl
  · have c4 : ¬ (1 : Int) * 1000000000 - (sm T a).toInt * 100000 + (T.2.1 4 a).toInt * 100 + (T.2.1 5 a).toInt < 0 * 1000000000 - (sm T b).toInt * 100000 + (T.2.1 4 b).toInt * 100 + (T.2.1 5 b).toInt := by omega
    rw [ea, eb, i0, i1, if_neg c4]; rfl
  · rw [ea, eb] at main ⊢; exact main rfl
theorem ahead8 {ib ab k : Nat} {S T : St} (h : VR ib ab k S T) {a b : Nat} (ha : a < k) (hb : b < k) : m_X4_isAhead ib ab S (nI a) (nI b) = some (if pkk T a < pkk T b then 1 else 0) := by
  have hk := h.1
  obtain ⟨a1, a2, a3, a4⟩ := h.pt.2.2 a ha
  obtain ⟨b1, b2, b3, b4⟩ := h.pt.2.2 b hb
  unfold m_X4_isAhead pkk
  rw [ckN (by omega) (by omega), ckN (by omega) (by omega), ckN (by omega) (by omega), ckN (by omega) (by omega), ckN (by omega) (by omega), clN (by omega), clN (by omega), (h.cell ha).2.2.2.1, (h.cell hb).2.2.2.1, sum8 h ha, sum8 h hb, leads8 h ha hb]
  have q1 := a2.1; have q2 := a2.2; have q3 := b2.1; have q4 := b2.2
  have q5 := a3.1; have q6 := a3.2; have q7 := b3.1; have q8 := b3.2
  have q9 := a4.1; have q10 := a4.2; have q11 := b4.1; have q12 := b4.2
  have i0 : Int32.toInt 0 = 0 := rfl
  have i1 : Int32.toInt 1 = 1 := rfl
  have main : (mt T a 6).toInt = (mt T b 6).toInt → ((some (sm T a)).bind fun r4 => (some (sm T b)).bind fun r6 => if r4 = r6 then (some (if (T.2.1 4 a).toInt * 100 + (T.2.1 5 a).toInt < (T.2.1 4 b).toInt * 100 + (T.2.1 5 b).toInt then (1 : Int32) else 0)).bind fun r11 => ckb r11 (some r11) else if r4 ≤ r6 then some (0 : Int32) else some 1) = some (if (mt T a 6).toInt * 1000000000 - (sm T a).toInt * 100000 + (T.2.1 4 a).toInt * 100 + (T.2.1 5 a).toInt < (mt T b 6).toInt * 1000000000 - (sm T b).toInt * 100000 + (T.2.1 4 b).toInt * 100 + (T.2.1 5 b).toInt then 1 else 0) := by
    intro e
    simp only [Option.bind_some]
    by_cases c2 : (sm T a).toInt = (sm T b).toInt
    · rw [if_pos (by rw [eq32]; exact c2)]
      by_cases c3 : (T.2.1 4 a).toInt * 100 + (T.2.1 5 a).toInt < (T.2.1 4 b).toInt * 100 + (T.2.1 5 b).toInt
      · rw [if_pos c3, if_pos (by omega)]; rfl
      · rw [if_neg c3, if_neg (by omega)]; rfl
    · rw [if_neg (by rw [eq32]; exact c2)]
      by_cases c1 : (sm T a).toInt ≤ (sm T b).toInt
      · rw [if_pos (by rw [le32]; exact c1), if_neg (by omega)]
      · rw [if_neg (by rw [le32]; exact c1), if_pos (by omega)]
  rcases rg01 a1 with ea | ea <;> rcases rg01 b1 with eb | eb
  · rw [ea, eb] at main ⊢; rw [if_pos rfl]; exact main rfl
  · have c4 : (0 : Int) * 1000000000 - (sm T a).toInt * 100000 + (T.2.1 4 a).toInt * 100 + (T.2.1 5 a).toInt < 1 * 1000000000 - (sm T b).toInt * 100000 + (T.2.1 4 b).toInt * 100 + (T.2.1 5 b).toInt := by omega
    rw [ea, eb, i0, i1, if_pos c4]; rfl
  · have c4 : ¬ (1 : Int) * 1000000000 - (sm T a).toInt * 100000 + (T.2.1 4 a).toInt * 100 + (T.2.1 5 a).toInt < 0 * 1000000000 - (sm T b).toInt * 100000 + (T.2.1 4 b).toInt * 100 + (T.2.1 5 b).toInt := by omega
    rw [ea, eb, i0, i1, if_neg c4]; rfl
  · rw [ea, eb] at main ⊢; rw [if_pos rfl]; exact main rfl
theorem aheadOf_L {k l : Nat} {T : St} (h : PT k T) (hl : l < k) : ∀ d i n a, i + d = k → d + 1 ≤ n → m_X9_aheadOf_L4 n T (nI l) (nI a) (nI i) = some (nI (a + cntR (fun j => tru j && decide (pkk T j < pkk T l)) i d)) := by
  intro d
  induction d with
  | zero =>
    intro i n a hi hn
    obtain ⟨m, rfl⟩ : ∃ m, n = m + 1 := ⟨n - 1, by omega⟩
    unfold m_X9_aheadOf_L4
    rw [h.2.1, if_pos (by rw [leN (by have := h.1; omega) (by have := h.1; omega)]; omega)]
    rfl
  | succ d ih =>
    intro i n a hi hn
    obtain ⟨m, rfl⟩ : ∃ m, n = m + 1 := ⟨n - 1, by omega⟩
    have hk := h.1
    unfold m_X9_aheadOf_L4
    rw [h.2.1, if_neg (by rw [leN (by omega) (by omega)]; omega), ahead9 h (by omega) hl, ifeqN (by omega) (by omega)]
    show _ = some (nI (a + ((if (true && decide (pkk T i < pkk T l)) = true then 1 else 0) + cntR (fun j => tru j && decide (pkk T j < pkk T l)) (i + 1) d)))
    unfold m_X9_flag
    by_cases c0 : i = l
    · subst c0
      rw [if_pos rfl, if_neg (by simp)]
      simp only [Option.bind_some, b00, if_true]
      rw [s0, s1, ih (i + 1) m _ (by omega) (by omega)]
      congr 2; omega
    · rw [if_neg c0]
      by_cases c2 : pkk T i < pkk T l
      · simp only [c2, if_true, Option.bind_some, b10, if_false, Bool.true_and, decide_true]
        rw [s1, s1, ih (i + 1) m _ (by omega) (by omega)]
        congr 2; omega
      · simp only [c2, if_true, Option.bind_some, b00, if_false, Bool.true_and, decide_false, Bool.false_eq_true]
        rw [s0, s1, ih (i + 1) m _ (by omega) (by omega)]
        congr 2; omega
theorem aheadOf9 {k l n : Nat} {T : St} (h : PT k T) (hl : l < k) (hn : 7 ≤ n) : m_X9_aheadOf n T (nI l) = some (nI (rnk k tru (pkk T) l)) := by
  unfold m_X9_aheadOf
  rw [show m_X9_aheadOf_L4 n T (nI l) 0 0 = _ from aheadOf_L h hl k 0 n 0 (by omega) (by have := h.1; omega)]
  rw [Nat.zero_add]
  rfl
theorem placeOf_L {ib ab k : Nat} {S T : St} (h : VR ib ab k S T) {l : Nat} (hl : l < k) : ∀ d i n a, i + d = k → d + 1 ≤ n → m_X4_placeOf_L4 ib ab n S (nI l) (nI a) (nI i) = some (nI (a + cntR (fun j => tru j && decide (pkk T j < pkk T l)) i d)) := by
  intro d
  induction d with
  | zero =>
    intro i n a hi hn
    obtain ⟨m, rfl⟩ : ∃ m, n = m + 1 := ⟨n - 1, by omega⟩
    unfold m_X4_placeOf_L4
    rw [h.size, if_pos (by rw [leN (by have := h.1; omega) (by have := h.1; omega)]; omega)]
    rfl
  | succ d ih =>
    intro i n a hi hn
    obtain ⟨m, rfl⟩ : ∃ m, n = m + 1 := ⟨n - 1, by omega⟩
    have hk := h.1
    unfold m_X4_placeOf_L4
    rw [h.size, if_neg (by rw [leN (by omega) (by omega)]; omega), ahead8 h (by omega) hl, ifeqN (by omega) (by omega), s1, s1, ih (i + 1) m _ (by omega) (by omega), ih (i + 1) m _ (by omega) (by omega)]
    show _ = some (nI (a + ((if (true && decide (pkk T i < pkk T l)) = true then 1 else 0) + cntR (fun j => tru j && decide (pkk T j < pkk T l)) (i + 1) d)))
    by_cases c0 : i = l
    · subst c0
      rw [if_pos rfl, if_neg (by simp)]
      congr 2; omega
    · rw [if_neg c0]
      by_cases c2 : pkk T i < pkk T l
      · simp only [c2, if_true, Option.bind_some, b10, if_false, Bool.true_and, decide_true]
        congr 2; omega
      · simp only [c2, if_true, Option.bind_some, b00, if_false, Bool.true_and, decide_false, Bool.false_eq_true]
        congr 2; omega
theorem placeOf8 {ib ab k : Nat} {S T : St} (h : VR ib ab k S T) {l n : Nat} (hl : l < k) (hn : 7 ≤ n) : m_X4_placeOf ib ab n S (nI l) = some (nI (rnk k tru (pkk T) l)) := by
  unfold m_X4_placeOf
  rw [show m_X4_placeOf_L4 ib ab n S (nI l) 0 0 = _ from placeOf_L h hl k 0 n 0 (by omega) (by have := h.1; omega)]
  rw [Nat.zero_add]
  rfl
theorem VR.pinj {ib ab k : Nat} {S T : St} (h : VR ib ab k S T) : ∀ a b, a < k → b < k → a ≠ b → pkk T a ≠ pkk T b := by
  intro a b ha hb hab
  obtain ⟨a1, a2, a3, a4⟩ := h.pt.2.2 a ha
  obtain ⟨b1, b2, b3, b4⟩ := h.pt.2.2 b hb
  have q1 := a2.1; have q2 := a2.2; have q3 := b2.1; have q4 := b2.2
  have q5 := a3.1; have q6 := a3.2; have q7 := b3.1; have q8 := b3.2
  have q9 := a4.1; have q10 := a4.2; have q11 := b4.1; have q12 := b4.2
  have q13 := a1.1; have q14 := a1.2; have q15 := b1.1; have q16 := b1.2
  have h1 := h.2.2.2.2.1 a b ha hb hab
  rw [ne_eq, eq32] at h1
  unfold pkk
  omega
/-! odds -/
def tabT (T : St) (l t : Nat) (x : Int32) : Int32 := tabO (T.2.1 6 (3 * l + t)).toNatClampNeg (T.2.1 7) (T.2.1 8) (6 * (3 * l + t)) x
def od (T : St) (l t : Nat) (x f : Int32) : Int32 := mx 0 (tabT T l t x - T.1 10 * f)
theorem tab_L {T : St} {x : Int32} {f np : Nat} (hf : f + 6 ≤ 108) (hnp : np ≤ 6) (hs : ∀ i, i + 1 < np → T.2.1 7 (f + (i + 1)) - T.2.1 7 (f + i) ≠ 0) : ∀ m i n, 1 ≤ i → i + m = np → m + 1 ≤ n → m_X9_tableOdds_L44 n T x (nI f) (nI np) (nI i) = some (tabS (T.2.1 7) (T.2.1 8) f x m i) := by
  intro m
  induction m with
  | zero =>
    intro i n h1 h2 h3
    obtain ⟨n', rfl⟩ : ∃ m, n = m + 1 := ⟨n - 1, by omega⟩
    unfold m_X9_tableOdds_L44
    rw [if_pos (by rw [leN (by omega) (by omega)]; omega)]
    rfl
  | succ m ih =>
    intro i n h1 h2 h3
    obtain ⟨n', rfl⟩ : ∃ m, n = m + 1 := ⟨n - 1, by omega⟩
    unfold m_X9_tableOdds_L44
    rw [if_neg (by rw [leN (by omega) (by omega)]; omega), nI_add, show nI (f + i) - 1 = nI (f + i - 1) from by rw [lit32 1, subN (by omega)], s1]
    rw [ckN (by omega) (by omega), ckN (by omega) (by omega), ckN (by omega) (by omega), ckN (by omega) (by omega), ckN (by omega) (by omega), ckN (by omega) (by omega), ckN (by omega) (by omega), clN (by omega), clN (by omega), ih (i + 1) n' (by omega) (by omega) (by omega)]
    show _ = some (if x ≤ T.2.1 7 (f + i) then T.2.1 8 (f + i - 1) - (T.2.1 8 (f + i - 1) - T.2.1 8 (f + i)) * (x - T.2.1 7 (f + i - 1)) / (T.2.1 7 (f + i) - T.2.1 7 (f + i - 1)) else tabS (T.2.1 7) (T.2.1 8) f x m (i + 1))
    by_cases c : T.2.1 7 (f + i) < x
    · rw [if_pos c, if_neg (by rw [lt32] at c; rw [le32]; omega)]
    · rw [if_neg c, if_pos (by rw [lt32] at c; rw [le32]; omega)]
      have := hs (i - 1) (by omega)
      rw [show f + (i - 1 + 1) = f + i by omega, show f + (i - 1) = f + i - 1 by omega] at this
      unfold ckd
      rw [if_neg this]
theorem VR.tab {ib ab k : Nat} {S T : St} (h : VR ib ab k S T) {l t : Nat} (hl : l < k) (ht : t < 3) : ∃ np : Nat, 1 ≤ np ∧ np ≤ 6 ∧ T.2.1 6 (3 * l + t) = nI np ∧
    (∀ i, i < np → Rg (T.2.1 7 (6 * (3 * l + t) + i)) 1 40 ∧ Rg (T.2.1 8 (6 * (3 * l + t) + i)) 0 1000) ∧
    (∀ i, i + 1 < np → (T.2.1 7 (6 * (3 * l + t) + i)).toInt < (T.2.1 7 (6 * (3 * l + t) + i + 1)).toInt ∧ (T.2.1 8 (6 * (3 * l + t) + i + 1)).toInt ≤ (T.2.1 8 (6 * (3 * l + t) + i)).toInt) ∧
    ∀ x, 1 ≤ x → x ≤ 40 → S.2.1 (5 + 3 * l) (41 * t + x) = tabT T l t (nI x) := by
  obtain ⟨np, h1, h2, h3, h4, h5, h6⟩ := (h.2.2.2.1 l hl).2.2.2.2.2 t ht
  refine ⟨np, h1, h2, h3, h4, h5, fun x hx1 hx2 => ?_⟩
  rw [h6 x hx1 hx2]
  unfold tabT
  rw [h3, clN (by omega)]
theorem tab9 {ib ab k : Nat} {S T : St} (h : VR ib ab k S T) {l t n : Nat} (hl : l < k) (ht : t < 3) (hn : 7 ≤ n) (x : Int32) : m_X9_tableOdds n T (nI l) (nI t) x = some (tabT T l t x) := by
  have hk := h.1
  obtain ⟨np, h1, h2, h3, h4, h5, h6⟩ := h.tab hl ht
  unfold m_X9_tableOdds tabT tabO
  rw [show (3 : Int32) * nI l + nI t = nI (3 * l + t) by rw [lit32 3, pk_mul, nI_add], show (6 : Int32) * nI (3 * l + t) = nI (6 * (3 * l + t)) by rw [lit32 6, pk_mul]]
  rw [ckN (by omega) (by omega), ckN (by omega) (by omega), ckN (by omega) (by omega), clN (by omega), clN (by omega), h3, clN (by omega)]
  by_cases c : T.2.1 7 (6 * (3 * l + t)) < x
  · rw [if_pos c, if_neg (by rw [lt32] at c; rw [le32]; omega)]
    refine tab_L (by omega) h2 ?_ (np - 1) 1 n (by omega) (by omega) (by omega)
    intro i hi q
    obtain ⟨a, _, ha, ea⟩ := (h4 i (by omega)).1.nat1 (n := 40)
    obtain ⟨b, _, hb, eb⟩ := (h4 (i + 1) (by omega)).1.nat1 (n := 40)
    have h7 := (h5 i hi).1
    rw [show 6 * (3 * l + t) + i + 1 = 6 * (3 * l + t) + (i + 1) by omega] at h7
    rw [ea, eb, tiN (by omega), tiN (by omega)] at h7
    rw [ea, eb, subN (by omega), show (0 : Int32) = nI 0 from rfl, eqN (by omega) (by omega)] at q
    omega
  · rw [if_neg c, if_pos (by rw [lt32] at c; rw [le32]; omega)]
theorem odds9 {ib ab k : Nat} {S T : St} (h : VR ib ab k S T) {l t n : Nat} (hl : l < k) (ht : t < 3) (hn : 7 ≤ n) (x f : Int32) : m_X9_oddsOf n T (nI l) (nI t) x f = some (od T l t x f) := by
  unfold m_X9_oddsOf
  rw [tab9 h hl ht hn]
  rfl
theorem odds8 {ib ab k : Nat} {S T : St} (h : VR ib ab k S T) {l t x : Nat} (hl : l < k) (ht : t < 3) (hx1 : 1 ≤ x) (hx2 : x ≤ 40) (q : Int32) : m_X3_oddsOf S l (nI t) (nI x) q = some (mx 0 (tabT T l t (nI x) - q)) := by
  obtain ⟨np, h1, h2, h3, h4, h5, h6⟩ := h.tab hl ht
  unfold m_X3_oddsOf
  rw [show nI t * 41 + nI x = nI (41 * t + x) by rw [lit32 41, pk_mul, nI_add, Nat.mul_comm]]
  rw [if_neg (nI_pos (by omega)), lit32 3, lit32 1, lit32 40, if_neg (by rw [leN (by omega) (by omega)]; omega), if_neg (by rw [ltN (by omega) (by omega)]; omega), if_pos (by rw [leN (by omega) (by omega)]; omega), ckN (by omega) (by omega), clN (by omega), h6 x hx1 hx2]
