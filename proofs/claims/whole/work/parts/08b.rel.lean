/-! ===== layer B: the relation ===== -/
def Rg (x : Int32) (lo hi : Int) : Prop := lo ≤ x.toInt ∧ x.toInt ≤ hi
theorem Rg.nat {x : Int32} {n : Nat} (h : Rg x 0 n) : ∃ a : Nat, a ≤ n ∧ x = nI a := by
  refine ⟨x.toInt.toNat, ?_, ?_⟩
  · have := h.1; have := h.2; omega
  · apply Int32.toInt_inj.mp
    have h1 := h.1
    have h3 := Int32.toInt_lt x
    rw [tiN (by omega)]
    omega
theorem Rg.of {a n : Nat} (h : a ≤ n) (hn : n < 2147483648) : Rg (nI a) 0 n := by
  unfold Rg
  rw [tiN (by omega)]
  omega
/-- ODDS by the points: np of them from f on -/
def tabS (ld od : Nat → Int32) (f : Nat) (x : Int32) : Nat → Nat → Int32
  | 0, _ => 0
  | m + 1, k => if x ≤ ld (f + k) then od (f + k - 1) - (od (f + k - 1) - od (f + k)) * (x - ld (f + k - 1)) / (ld (f + k) - ld (f + k - 1)) else tabS ld od f x m (k + 1)
def tabO (np : Nat) (ld od : Nat → Int32) (f : Nat) (x : Int32) : Int32 := if x ≤ ld f then od f else tabS ld od f x (np - 1) 1
/-- the text -/
def TapeR (S T : St) : Prop := ∃ len : Nat, len ≤ 240 ∧ S.1 1 = nI len ∧ T.1 18 = nI len ∧ ∀ j, j < len → S.2.1 2 j = T.2.1 17 j ∧ Rg (T.2.1 17 j) 0 255
/-- the ROW -/
def RowR (S T : St) : Prop := ∃ t : Nat, t ≤ 9 ∧ S.1 0 = nI t ∧ T.1 1 = nI t ∧ ∀ j, j < t → S.2.2.1 58 j = T.2.2.1 2 j
/-- a lifter: body, lot, plan, table -/
def LifR (S T : St) (l : Nat) : Prop :=
  S.1 (10 + 2 * l) = T.2.1 4 l ∧ Rg (T.2.1 4 l) 1 200 ∧ S.1 (11 + 2 * l) = T.2.1 5 l ∧ Rg (T.2.1 5 l) 0 99 ∧
  (∀ t, t < 3 → (∀ w, w < 3 → S.2.1 (6 + 3 * l) (3 * t + w) = T.2.1 9 (3 * (3 * l + t) + w)) ∧ Rg (T.2.1 9 (3 * (3 * l + t))) 1 40 ∧ Rg (T.2.1 9 (3 * (3 * l + t) + 1)) 1 9 ∧ Rg (T.2.1 9 (3 * (3 * l + t) + 2)) 0 9) ∧
  (∀ t, t < 3 → ∃ np : Nat, 1 ≤ np ∧ np ≤ 6 ∧ T.2.1 6 (3 * l + t) = nI np ∧
    (∀ i, i < np → Rg (T.2.1 7 (6 * (3 * l + t) + i)) 1 40 ∧ Rg (T.2.1 8 (6 * (3 * l + t) + i)) 0 1000) ∧
    (∀ i, i + 1 < np → (T.2.1 7 (6 * (3 * l + t) + i)).toInt < (T.2.1 7 (6 * (3 * l + t) + i + 1)).toInt ∧ (T.2.1 8 (6 * (3 * l + t) + i + 1)).toInt ≤ (T.2.1 8 (6 * (3 * l + t) + i)).toInt) ∧
    ∀ x, 1 ≤ x → x ≤ 40 → S.2.1 (5 + 3 * l) (41 * t + x) = tabO np (T.2.1 7) (T.2.1 8) (6 * (3 * l + t)) (nI x))
/-- the meet, of the instance ib ab -/
def MeetR (ib ab k : Nat) (S T : St) : Prop :=
  S.1 (ib + 0) = nI k ∧ S.1 (ib + 1) = T.1 10 ∧ S.1 (ib + 2) = T.2.1 11 0 ∧ S.1 (ib + 3) = T.2.1 11 1 ∧ S.1 (ib + 4) = T.2.1 11 2 ∧ S.1 (ib + 5) = T.1 13 ∧ S.1 (ib + 6) = T.1 14 ∧
  ∀ l, l < k → S.2.1 (ab + 1) l = mt T l 0 ∧ S.2.1 (ab + 2) l = mt T l 1 ∧ S.2.1 (ab + 3) l = mt T l 5 ∧ S.2.1 (ab + 4) l = mt T l 6 ∧ S.2.1 (ab + 6) l = mt T l 4 ∧ S.2.1 (ab + 7) l = (if mt T l 2 = 0 then 1 else mt T l 2 + mt T l 3) ∧ ∀ t, t < 3 → S.2.1 (ab + 5) (3 * l + t) = mt T l (7 + t)
/-- the tries so far -/
def LogP (ab : Nat) (S T : St) : Prop := ∀ i : Nat, (i : Int) < 4 * (T.1 13).toInt → S.2.1 (ab + 8) i = T.2.1 15 i
def BitP (ab : Nat) (S : St) : Prop := ∀ i, i < 6 → (S.2.1 (ab + 2) i = 0 ∨ S.2.1 (ab + 2) i = 1) ∧ (S.2.1 (ab + 4) i = 0 ∨ S.2.1 (ab + 4) i = 1)
def LogR (S T : St) : Prop := LogP 25 S T ∧ BitP 25 S
def cntR (p : Nat → Bool) : Nat → Nat → Nat
  | _, 0 => 0
  | i, d + 1 => (if p i = true then 1 else 0) + cntR p (i + 1) d
/-- LEAST without BAR, as a number -/
def itsI (m : Nat → Int32) (l : Nat) : Int := if m (3 + 10 * l + 2) = 0 then 1 else (m (3 + 10 * l + 2)).toInt + (m (3 + 10 * l + 3)).toInt
/-- what holds of one lifter in a meet -/
def OwnI (lift round : Nat) (m : Nat → Int32) (l : Nat) : Prop :=
  Rg (m (3 + 10 * l + 0)) 0 40 ∧ Rg (m (3 + 10 * l + 2)) 0 40 ∧ Rg (m (3 + 10 * l + 3)) 0 1 ∧ Rg (m (3 + 10 * l + 4)) 0 3 ∧ Rg (m (3 + 10 * l + 5)) 0 2 ∧ Rg (m (3 + 10 * l + 6)) 0 1 ∧
    (∀ t, t < 3 → Rg (m (3 + 10 * l + 7 + t)) 0 40) ∧ (m (3 + 10 * l + 6) = 1 → m (3 + 10 * l + 0) = 0) ∧ (lift = 3 → m (3 + 10 * l + 0) = 0 ∧ m (3 + 10 * l + 5) = 0) ∧
    (∀ t, t < 3 → lift < t → m (3 + 10 * l + 7 + t) = 0) ∧ (∀ t, t < 3 → t < lift → m (3 + 10 * l + 6) = 0 → 1 ≤ (m (3 + 10 * l + 7 + t)).toInt) ∧
    (lift < 3 → m (3 + 10 * l + 0) ≠ 0 → round + (m (3 + 10 * l + 1)).toInt ≤ 2 ∧ (m (3 + 10 * l + 4)).toInt ≤ round + (m (3 + 10 * l + 1)).toInt ∧
      (m (3 + 10 * l + 4) = 0 → (m (3 + 10 * l + 7 + lift)).toInt + 1 = itsI m l) ∧ ((m (3 + 10 * l + 4)).toInt = round + (m (3 + 10 * l + 1)).toInt → m (3 + 10 * l + 7 + lift) = 0) ∧
      (m (3 + 10 * l + 7 + lift)).toInt < itsI m l ∧ itsI m l ≤ (m (3 + 10 * l + 0)).toInt ∧ ((m (3 + 10 * l + 4)).toInt < round + (m (3 + 10 * l + 1)).toInt → 1 ≤ (m (3 + 10 * l + 7 + lift)).toInt))
theorem OwnI.congr {lift round : Nat} {m m' : Nat → Int32} {l : Nat} (h : OwnI lift round m l) (e : ∀ w, w < 10 → m' (3 + 10 * l + w) = m (3 + 10 * l + w)) : OwnI lift round m' l := by
  have et : ∀ t, t < 3 → m' (3 + 10 * l + 7 + t) = m (3 + 10 * l + 7 + t) := fun t ht => by
    rw [Nat.add_assoc]; exact e (7 + t) (by omega)
  obtain ⟨h0, h2, h3, h4, h5, h6, h7, h8, h9, h10, h11, h12⟩ := h
  unfold OwnI
  rw [e 0 (by omega), e 1 (by omega), e 2 (by omega), e 3 (by omega), e 4 (by omega), e 5 (by omega), e 6 (by omega)]
  refine ⟨h0, h2, h3, h4, h5, h6, fun t ht => by rw [et t ht]; exact h7 t ht, h8, h9, fun t ht => by rw [et t ht]; exact h10 t ht, fun t ht => by rw [et t ht]; exact h11 t ht, fun hl => ?_⟩
  have ei : itsI m' l = itsI m l := by unfold itsI; rw [e 2 (by omega), e 3 (by omega)]
  rw [et lift hl, ei]
  exact h12 hl
/-- what holds of a meet that is reached: m its row, c the tries so far, g the good ones -/
def MeetI (k : Nat) (m : Nat → Int32) (c g : Int32) : Prop :=
  ∃ lift round done : Nat, lift ≤ 3 ∧ round ≤ 2 ∧ m 0 = nI lift ∧ m 1 = nI round ∧ Rg (m 2) 0 40 ∧ (lift = 3 → round = 0 ∧ m 2 = 0) ∧ Rg c 0 54 ∧ 0 ≤ g.toInt ∧ g.toInt ≤ c.toInt ∧
  c.toInt ≤ (3 * lift + round) * k + done ∧ (lift = 3 → done = 0) ∧ done ≤ k ∧ (k = 0 → lift = 0 ∧ round = 0 ∧ c = 0) ∧
  ((∀ l, l < k → m (3 + 10 * l + 1) = 0 ∨ m (3 + 10 * l + 1) = 1) ∧ cntR (fun l => decide (m (3 + 10 * l + 1) ≠ 0)) 0 k = done) ∧
  ∀ l, l < k → OwnI lift round m l
def CoreR (k : Nat) (S T : St) : Prop :=
  k ≤ 6 ∧ T.1 3 = nI k ∧ Rg (T.1 10) 0 300 ∧ TapeR S T ∧ (∀ l, l < k → LifR S T l) ∧ (∀ a b, a < k → b < k → a ≠ b → T.2.1 5 a ≠ T.2.1 5 b) ∧ MeetR 30 25 k S T ∧ MeetI k (T.2.1 11) (T.1 13) (T.1 14) ∧ LogR S T
def RefR (S : St) (oF oP : Option St) : Prop := ((oF = none ∧ S.2.2.2 2 = none) ∨ (∃ F, oF = some F ∧ S.2.2.2 2 = some 0)) ∧ ((oP = none ∧ S.2.2.2 3 = none) ∨ (∃ P, oP = some P ∧ S.2.2.2 3 = some 0)) ∧ (S.2.2.2 0 = none ∨ ∃ j, j < 7 ∧ S.2.2.2 0 = some j)
def RelB (S : St) (oF oP : Option St) (T : St) : Prop := RefR S oF oP ∧ RowR S T ∧ ∃ k, CoreR k S T
/-- what the core rests on is the same -/
def EqS (S S' : St) : Prop := (∀ i, 1 ≤ i → i ≤ 36 → S'.1 i = S.1 i) ∧ (∀ a, a ≤ 33 → S'.2.1 a = S.2.1 a)
def EqT (T T' : St) : Prop := (T'.1 3 = T.1 3 ∧ T'.1 10 = T.1 10 ∧ T'.1 13 = T.1 13 ∧ T'.1 14 = T.1 14 ∧ T'.1 18 = T.1 18) ∧ (∀ a, 4 ≤ a → a ≤ 9 → T'.2.1 a = T.2.1 a) ∧ T'.2.1 11 = T.2.1 11 ∧ T'.2.1 15 = T.2.1 15 ∧ T'.2.1 17 = T.2.1 17
theorem EqS.rfl (S : St) : EqS S S := ⟨fun _ _ _ => Eq.refl _, fun _ _ => Eq.refl _⟩
theorem EqT.rfl (S : St) : EqT S S := ⟨⟨Eq.refl _, Eq.refl _, Eq.refl _, Eq.refl _, Eq.refl _⟩, fun _ _ _ => Eq.refl _, Eq.refl _, Eq.refl _, Eq.refl _⟩
theorem EqS.trans {S S' S2 : St} (h : EqS S S') (g : EqS S' S2) : EqS S S2 := ⟨fun i a b => (g.1 i a b).trans (h.1 i a b), fun i a => (g.2 i a).trans (h.2 i a)⟩
theorem EqT.trans {S S' S2 : St} (h : EqT S S') (g : EqT S' S2) : EqT S S2 := ⟨⟨g.1.1.trans h.1.1, g.1.2.1.trans h.1.2.1, g.1.2.2.1.trans h.1.2.2.1, g.1.2.2.2.1.trans h.1.2.2.2.1, g.1.2.2.2.2.trans h.1.2.2.2.2⟩, fun i a b => (g.2.1 i a b).trans (h.2.1 i a b), g.2.2.1.trans h.2.2.1, g.2.2.2.1.trans h.2.2.2.1, g.2.2.2.2.trans h.2.2.2.2⟩
theorem LifR.congr {S T S' T' : St} {l : Nat} (h : LifR S T l) (e1 : S'.1 (10 + 2 * l) = S.1 (10 + 2 * l)) (e2 : S'.1 (11 + 2 * l) = S.1 (11 + 2 * l)) (e3 : S'.2.1 (6 + 3 * l) = S.2.1 (6 + 3 * l)) (e4 : S'.2.1 (5 + 3 * l) = S.2.1 (5 + 3 * l)) (et : ∀ a, 4 ≤ a → a ≤ 9 → T'.2.1 a = T.2.1 a) : LifR S' T' l := by
  unfold LifR
  rw [e1, e2, e3, e4, et 4 (by omega) (by omega), et 5 (by omega) (by omega), et 6 (by omega) (by omega), et 7 (by omega) (by omega), et 8 (by omega) (by omega), et 9 (by omega) (by omega)]
  exact h
theorem MeetR.congr {S T S' T' : St} {ib ab k : Nat} (h : MeetR ib ab k S T) (e1 : ∀ i, i ≤ 6 → S'.1 (ib + i) = S.1 (ib + i)) (e2 : ∀ a, 1 ≤ a → a ≤ 7 → S'.2.1 (ab + a) = S.2.1 (ab + a)) (t1 : T'.1 10 = T.1 10) (t2 : T'.1 13 = T.1 13) (t3 : T'.1 14 = T.1 14) (t4 : T'.2.1 11 = T.2.1 11) : MeetR ib ab k S' T' := by
  unfold MeetR mt
  rw [e1 0 (by omega), e1 1 (by omega), e1 2 (by omega), e1 3 (by omega), e1 4 (by omega), e1 5 (by omega), e1 6 (by omega), e2 1 (by omega) (by omega), e2 2 (by omega) (by omega), e2 3 (by omega) (by omega), e2 4 (by omega) (by omega), e2 5 (by omega) (by omega), e2 6 (by omega) (by omega), e2 7 (by omega) (by omega), t1, t2, t3, t4]
  exact h
theorem TapeR.congr {S T S' T' : St} (h : TapeR S T) (e1 : S'.1 1 = S.1 1) (e2 : S'.2.1 2 = S.2.1 2) (t1 : T'.1 18 = T.1 18) (t2 : T'.2.1 17 = T.2.1 17) : TapeR S' T' := by
  unfold TapeR
  rw [e1, e2, t1, t2]
  exact h
theorem CoreR.congr {S T S' T' : St} {k : Nat} (h : CoreR k S T) (e : EqS S S') (f : EqT T T') : CoreR k S' T' := by
  obtain ⟨hk, h3, h10, hta, hli, hlo, hme, hmi, hlg⟩ := h
  obtain ⟨e1, e2⟩ := e
  obtain ⟨⟨t3, t10, t13, t14, t18⟩, tr, t11, t15, t17⟩ := f
  refine ⟨hk, by rw [t3]; exact h3, by rw [t10]; exact h10, hta.congr (e1 1 (by omega) (by omega)) (e2 2 (by omega)) t18 t17, fun l hl => (hli l hl).congr (e1 _ (by omega) (by omega)) (e1 _ (by omega) (by omega)) (e2 _ (by omega)) (e2 _ (by omega)) tr, ?_, hme.congr (fun i hi => e1 _ (by omega) (by omega)) (fun i hi1 hi2 => e2 _ (by omega)) t10 t13 t14 t11, ?_, ?_⟩
  · rw [tr 5 (by omega) (by omega)]; exact hlo
  · rw [t11, t13, t14]; exact hmi
  · unfold LogR LogP BitP; rw [t13, t15, e2 (25 + 8) (by omega), e2 (25 + 2) (by omega), e2 (25 + 4) (by omega)]; exact hlg
theorem rel_start : RelB S0 none none T0 := by
  refine ⟨⟨Or.inl ⟨rfl, rfl⟩, Or.inl ⟨rfl, rfl⟩, Or.inl rfl⟩, ⟨0, by omega, rfl, rfl, fun j h => absurd h (by omega)⟩, 0, by omega, rfl, ⟨by decide, by decide⟩, ⟨0, by omega, rfl, rfl, fun j h => absurd h (by omega)⟩, fun l h => absurd h (by omega), fun a b h => absurd h (by omega), ⟨rfl, rfl, rfl, rfl, rfl, rfl, rfl, fun l h => absurd h (by omega)⟩, ?_, ?_⟩
  · refine ⟨0, 0, 0, by omega, by omega, rfl, rfl, ⟨by decide, by decide⟩, fun h => absurd h (by omega), ⟨by decide, by decide⟩, by decide, by decide, by decide, fun _ => rfl, by omega, fun _ => ⟨rfl, rfl, rfl⟩, ⟨fun l h => absurd h (by omega), rfl⟩, fun l h => absurd h (by omega)⟩
  · refine ⟨fun i h => ?_, fun i hi => ⟨Or.inl rfl, Or.inl rfl⟩⟩
    have : (T0.1 13).toInt = 0 := rfl
    omega
/-- tires -/
theorem hb_5 (n : Nat) : HB_5 n RelB := by
  intro S oF oP T a1 hR
  obtain ⟨hf, hro, k, hk, h3, h10, hta, hli, hlo, hme, hmi, hlg⟩ := hR
  unfold m_X8_tires m_X9_tires
  simp only [nmE]
  by_cases h : 0 ≤ a1.toInt ∧ a1.toInt ≤ 300
  · rw [in_yes (by rw [t64]; exact h.1) (by rw [t64]; exact h.2)]
    rw [if_neg (by rw [lt32]; exact fun q => absurd q (by show ¬ a1.toInt < 0; omega)), if_pos (by rw [le32]; exact h.2)]
    refine ⟨T.1 10, sI S 31 a1, sI (sI T 0 0) 10 a1, ?_, rfl, hf, hro, k, hk, h3, h, hta, fun l hl => (hli l hl).congr (if_neg (by omega)) (if_neg (by omega)) rfl rfl (fun _ _ _ => rfl), hlo, ⟨hme.1, rfl, hme.2.2.1, hme.2.2.2.1, hme.2.2.2.2.1, hme.2.2.2.2.2.1, hme.2.2.2.2.2.2.1, hme.2.2.2.2.2.2.2⟩, hmi, hlg⟩
    rw [← hme.2.1]
  · rw [in_no (by rw [t64]; show a1.toInt < 0 ∨ 300 < a1.toInt; omega)]
    refine ⟨-1, S, sI T 0 0, ?_, rfl, hf, hro, k, hk, h3, h10, hta, hli, hlo, hme, hmi, hlg⟩
    by_cases h1 : a1 < 0
    · rw [if_pos h1]
    · rw [if_neg h1, if_neg]
      rw [le32]
      rw [lt32] at h1
      intro q
      exact h ⟨by have : ¬ a1.toInt < 0 := h1; omega, q⟩
/-- row -/
theorem hb_35 (n : Nat) : HB_35 n RelB := by
  intro S oF oP T a1 hR
  obtain ⟨hf, ⟨t, ht, e1, e2, hrow⟩, k, hk, h3, h10, hta, hli, hlo, hme, hmi, hlg⟩ := hR
  have hk2 : ∀ v, RowR S (sI T 0 v) ∧ ∃ k, CoreR k S (sI T 0 v) := fun v => ⟨⟨t, ht, e1, e2, hrow⟩, k, hk, h3, h10, hta, hli, hlo, hme, hmi, hlg⟩
  have et : ((T.1 1) - 1).toInt64.toInt = (t : Int) - 1 := by
    rw [t64, e2, show (1 : Int32) = nI 1 from rfl, pk_sub_toInt (by omega) (by omega)]
    rfl
  unfold m_X9_row m_X9_thrown m_X9_flag m_X8_rowN
  simp only [nmE]
  rcases cases32 a1 t (by omega) with ⟨j, hj, rfl⟩ | h
  · rw [in_yes (by rw [t64, tiN (by omega)]; show (0 : Int) ≤ j; omega) (by rw [t64, tiN (by omega), et]; omega)]
    refine ⟨T.2.2.1 2 j, sI T 0 0, 0, ?_, rfl, ⟨hf, hk2 0⟩, Or.inl ⟨rfl, ?_⟩⟩
    · show ck (nI j) 64 (some (T.2.2.1 2 (nI j).toNatClampNeg, sI T 0 0)) = _
      rw [ckN (by omega) (by omega), clN (by omega)]
    · rw [if_neg (nI_pos (by omega)), e1, if_neg (by rw [leN (by omega) (by omega)]; omega), if_pos (by rw [show (9 : Int32) = nI 9 from rfl, ltN (by omega) (by omega)]; omega), ckN (by omega) (by omega), clN (by omega), hrow j hj]
  · rw [in_no (by rw [t64, et]; show a1.toInt < 0 ∨ (t : Int) - 1 < a1.toInt; omega)]
    refine ⟨0, sI T 0 1, 1, rfl, rfl, ⟨hf, hk2 1⟩, Or.inr ⟨rfl, ?_⟩⟩
    rcases h with h | h
    · left; rw [lt32]; exact h
    · right; left; rw [le32, e1, tiN (by omega)]; exact h
/-- end -/
theorem hb_1 (n : Nat) : HB_1 n RelB := by
  intro S oF oP T a1 hR
  obtain ⟨hf, hro, k, hk, h3, h10, ⟨len, hlen, e1, e2, htp⟩, hli, hlo, hme, hmi, hlg⟩ := hR
  unfold m_X8_end m_X7_shorten m_X9_end
  simp only [nmE]
  have el : ((sI T 0 0).1 18).toInt64.toInt = len := by
    show ((T.1 18).toInt64).toInt = len
    rw [t64, e2, tiN (by omega)]
  rcases cases32 a1 (len + 1) (by omega) with ⟨j, hj, rfl⟩ | h
  · rw [in_yes (by rw [t64, tiN (by omega)]; show (0 : Int) ≤ j; omega) (by rw [t64, tiN (by omega), el]; omega)]
    rw [if_neg (nI_pos (by omega)), e1, if_pos (by rw [leN (by omega) (by omega)]; omega)]
    exact ⟨1, sI S 1 (nI j), sI (sI T 0 0) 18 (nI j), rfl, rfl, hf, hro, k, hk, h3, h10, ⟨j, by omega, rfl, rfl, fun i hi => htp i (by omega)⟩, fun l hl => (hli l hl).congr (if_neg (by omega)) (if_neg (by omega)) rfl rfl (fun _ _ _ => rfl), hlo, hme, hmi, hlg⟩
  · rw [in_no (by rw [t64, el]; show a1.toInt < 0 ∨ (len : Int) < a1.toInt; omega)]
    refine ⟨0, S, sI T 0 0, ?_, rfl, hf, hro, k, hk, h3, h10, ⟨len, hlen, e1, e2, htp⟩, hli, hlo, hme, hmi, hlg⟩
    by_cases h1 : a1 < 0
    · rw [if_pos h1]; rfl
    · rw [if_neg h1, e1, if_neg]
      · rfl
      · rw [le32, tiN (by omega)]
        rw [lt32] at h1
        have : ¬ a1.toInt < 0 := h1
        omega
/-- tried -/
theorem hb_13 (n : Nat) : HB_13 n RelB := by
  intro S oF oP T a1 a2 hR
  obtain ⟨hf, hro, k, hk, h3, h10, hta, hli, hlo, hme, hmi, hlg⟩ := hR
  obtain ⟨lift, round, done, g1, g2, g3, g4, g5, g6, gc, grest⟩ := id hmi
  obtain ⟨c, hc, ec⟩ := gc.nat (n := 54)
  have es : S.1 35 = nI c := hme.2.2.2.2.2.1.trans ec
  unfold m_X8_tried m_X9_tried
  simp only [nmE]
  have et : (((sI T 0 0).1 13) - 1).toInt64.toInt = (c : Int) - 1 := by
    show (((T.1 13) - 1).toInt64).toInt = (c : Int) - 1
    rw [t64, ec, show (1 : Int32) = nI 1 from rfl, pk_sub_toInt (by omega) (by omega)]
    rfl
  have hrel : RelB S oF oP (sI T 0 0) := ⟨hf, hro, k, hk, h3, h10, hta, hli, hlo, hme, hmi, hlg⟩
  rcases cases32 a1 c (by omega) with ⟨i, hi, rfl⟩ | h
  · rw [in_yes (by rw [t64, tiN (by omega)]; show (0 : Int) ≤ i; omega) (by rw [t64, tiN (by omega), et]; omega)]
    rw [if_neg (nI_pos (by omega)), es, if_neg (by rw [leN (by omega) (by omega)]; omega)]
    rcases cases32 a2 4 (by omega) with ⟨j, hj, rfl⟩ | h2
    · rw [if_neg (nI_pos (by omega)), show (3 : Int32) = nI 3 from rfl, if_pos (by rw [leN (by omega) (by omega)]; omega)]
      rw [show nI i * 4 + nI j = nI (i * 4 + j) by rw [lit32 4, pk_mul, nI_add], ckN (by omega) (by omega), clN (by omega)]
      refine ⟨T.2.1 15 (i * 4 + j), sI T 0 0, ?_, ?_, hrel⟩
      · rw [show S.2.1 33 (i * 4 + j) = T.2.1 15 (i * 4 + j) from hlg.1 (i * 4 + j) (by rw [ec, tiN (by omega)]; omega)]
      · show ((m_X9_in (sI T 0 0) (nI j).toInt64 0 3).bind fun r6 => if r6 = 0 then some (-1, sI T 0 0) else ck (4 * nI i + nI j) 240 (some ((sI T 0 0).2.1 15 (4 * nI i + nI j).toNatClampNeg, sI T 0 0))) = _
        rw [in_yes (by rw [t64, tiN (by omega)]; show (0 : Int) ≤ j; omega) (by rw [t64, tiN (by omega)]; show (j : Int) ≤ 3; omega)]
        show ck (4 * nI i + nI j) 240 _ = _
        rw [show 4 * nI i + nI j = nI (i * 4 + j) by rw [lit32 4, pk_mul, nI_add, Nat.mul_comm], ckN (by omega) (by omega), clN (by omega)]
        rfl
    · refine ⟨-1, sI T 0 0, ?_, ?_, hrel⟩
      · by_cases q : a2 < 0
        · rw [if_pos q]
        · rw [if_neg q, if_neg]
          rw [le32]
          rw [lt32] at q
          have : ¬ a2.toInt < 0 := q
          show ¬ a2.toInt ≤ 3
          omega
      · show ((m_X9_in (sI T 0 0) a2.toInt64 0 3).bind fun r6 => if r6 = 0 then some (-1, sI T 0 0) else _) = _
        rw [in_no (by rw [t64]; show a2.toInt < 0 ∨ 3 < a2.toInt; omega)]
        rfl
  · rw [in_no (by rw [t64, et]; show a1.toInt < 0 ∨ (c : Int) - 1 < a1.toInt; omega)]
    refine ⟨-1, sI T 0 0, ?_, rfl, hrel⟩
    by_cases q : a1 < 0
    · rw [if_pos q]
    · rw [if_neg q, es, if_pos]
      rw [le32, tiN (by omega)]
      rw [lt32] at q
      have : ¬ a1.toInt < 0 := q
      omega
