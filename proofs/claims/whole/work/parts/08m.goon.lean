/-! ===== layer B: rounds go on ===== -/
theorem sI_ne {S : St} {j k : Nat} {v : Int32} (h : j ≠ k) : (sI S k v).1 j = S.1 j := if_neg h
theorem sI_eq {S : St} {k : Nat} {v : Int32} : (sI S k v).1 k = v := if_pos rfl
theorem sA_eq {S : St} {a i : Nat} {v : Int32} : (sA S a i v).2.1 a i = v := by rw [sA_21, if_pos rfl, if_pos rfl]
theorem sA_ne {S : St} {a i j : Nat} {v : Int32} (h : j ≠ i) : (sA S a i v).2.1 a j = S.2.1 a j := by rw [sA_21, if_pos rfl, if_neg h]
theorem ifle0N {α : Type} {a : Nat} {x y : α} (ha : a < 2147483648) : (if nI a ≤ 0 then x else y) = if a ≤ 0 then x else y := ifleN (b := 0) ha (by omega)
theorem s2 (a : Nat) : nI a + 2 = nI (a + 2) := by rw [lit32 2, nI_add]
theorem s3 (a : Nat) : nI a + 3 = nI (a + 3) := by rw [lit32 3, nI_add]
theorem m3 (a : Nat) : nI a * 3 = nI (3 * a) := by rw [lit32 3, pk_mul, Nat.mul_comm]
theorem m4 (a : Nat) : nI a * 4 = nI (4 * a) := by rw [lit32 4, pk_mul, Nat.mul_comm]
theorem m4' (a : Nat) : 4 * nI a = nI (4 * a) := by rw [lit32 4, pk_mul]
/-- what a try leaves of the reference -/
def FrT (T T' : St) : Prop := (∀ i, i ≠ 13 → i ≠ 14 → i ≠ 16 → i ≠ 39 → T'.1 i = T.1 i) ∧ (∀ a, a ≠ 11 → a ≠ 15 → T'.2.1 a = T.2.1 a) ∧ T'.2.2 = T.2.2 ∧ (∀ x, 63 ≤ x → T'.2.1 11 x = T.2.1 11 x) ∧ (T.1 13).toInt ≤ (T'.1 13).toInt ∧ (∀ i : Nat, (i : Int) < 4 * (T.1 13).toInt → T'.2.1 15 i = T.2.1 15 i)
theorem FrT.rfl (T : St) : FrT T T := ⟨fun _ _ _ _ _ => Eq.refl _, fun _ _ _ => Eq.refl _, Eq.refl _, fun _ _ => Eq.refl _, Int.le_refl _, fun _ _ => Eq.refl _⟩
theorem FrT.trans {T T' T2 : St} (h : FrT T T') (g : FrT T' T2) : FrT T T2 := by
  refine ⟨fun i a b c d => (g.1 i a b c d).trans (h.1 i a b c d), fun i a b => (g.2.1 i a b).trans (h.2.1 i a b), g.2.2.1.trans h.2.2.1, fun i a => (g.2.2.2.1 i a).trans (h.2.2.2.1 i a), ?_, fun i hi => ?_⟩
  · have := h.2.2.2.2.1; have := g.2.2.2.2.1; omega
  · have := h.2.2.2.2.1
    exact (g.2.2.2.2.2 i (by omega)).trans (h.2.2.2.2.2 i hi)
theorem VR.meet {ib ab k : Nat} {S T S' T' : St} (hib : 30 ≤ ib) (hab : 25 ≤ ab) (h : VR ib ab k S T) (f : FrM ib ab S S') (g : FrT T T') (m1 : MeetR ib ab k S' T') (m2 : MeetI k (T'.2.1 11) (T'.1 13) (T'.1 14)) : VR ib ab k S' T' := by
  obtain ⟨hk, h3, h10, hli, hlo, hme, hmi⟩ := h
  refine ⟨hk, by rw [g.1 3 (by omega) (by omega) (by omega) (by omega)]; exact h3, by rw [g.1 10 (by omega) (by omega) (by omega) (by omega)]; exact h10, fun l hl => (hli l hl).congr (f.1 _ (by omega)) (f.1 _ (by omega)) (f.2.1 _ (by omega)) (f.2.1 _ (by omega)) (fun a h1 h2 => g.2.1 a (by omega) (by omega)), ?_, m1, m2⟩
  rw [g.2.1 5 (by omega) (by omega)]; exact hlo
/-- a meet that is reached, its lift and round named -/
def MeetJ (lift round done k : Nat) (m : Nat → Int32) (c g : Int32) : Prop :=
  lift ≤ 3 ∧ round ≤ 2 ∧ m 0 = nI lift ∧ m 1 = nI round ∧ Rg (m 2) 0 40 ∧ (lift = 3 → round = 0 ∧ m 2 = 0) ∧ Rg c 0 54 ∧ 0 ≤ g.toInt ∧ g.toInt ≤ c.toInt ∧
  c.toInt ≤ (3 * lift + round) * k + done ∧ (lift = 3 → done = 0) ∧ done ≤ k ∧ (k = 0 → lift = 0 ∧ round = 0 ∧ c = 0) ∧
  ((∀ l, l < k → m (3 + 10 * l + 1) = 0 ∨ m (3 + 10 * l + 1) = 1) ∧ cntR (fun l => decide (m (3 + 10 * l + 1) ≠ 0)) 0 k = done) ∧
  ∀ l, l < k → OwnI lift round m l
theorem MeetI.at {k : Nat} {m : Nat → Int32} {c g : Int32} (h : MeetI k m c g) : ∃ lift round done, MeetJ lift round done k m c g := h
theorem MeetJ.mk {lift round done k : Nat} {m : Nat → Int32} {c g : Int32} (h : MeetJ lift round done k m c g) : MeetI k m c g := ⟨lift, round, done, h⟩
theorem nowait {T : St} {l : Nat} (h : wt T l = false) (h0 : Rg (mt T l 0) 0 40) : mt T l 0 = 0 ∨ mt T l 1 ≠ 0 := by
  unfold wt at h
  simp only [decide_eq_false_iff_not] at h
  by_cases c : mt T l 0 = 0
  · exact Or.inl c
  · right
    intro q
    apply h
    refine ⟨fun z => c ?_, q⟩
    rw [le32] at z
    rw [eq32]
    have := h0.1
    have e : Int32.toInt 0 = 0 := rfl
    omega
theorem round_same {ib ab k n n' lift r done : Nat} {S T : St} (hib : 30 ≤ ib) (hab : 25 ≤ ab) (hv : VR ib ab k S T) (hn : 10 ≤ n) (hn' : 10 ≤ n') (hj : MeetJ lift r done k (T.2.1 11) (T.1 13) (T.1 14)) (hno : ∀ l, l < k → wt T l = false) (hk0 : 0 < k) (hl : lift < 3) (hr : r < 2) :
    ∃ S' T', m_X4_openRound ib ab n S (nI (r + 1)) = some S' ∧ m_X9_roundBegins n' (sA T 11 1 (nI (r + 1))) = some T' ∧ VR ib ab k S' T' ∧ FrM ib ab S S' ∧ FrT T T' ∧ T'.1 = T.1 ∧ T'.2.1 15 = T.2.1 15 ∧ S'.2.1 (ab + 8) = S.2.1 (ab + 8) ∧ (BitP ab S → BitP ab S') ∧ MeetJ lift (r + 1) 0 k (T'.2.1 11) (T'.1 13) (T'.1 14) := by
  have hk := hv.1
  obtain ⟨j1, j2, j3, j4, j5, j6, j7, j8, j9, j10, j11, j12, j13, ⟨j14, j14'⟩, j15⟩ := hj
  have h0 : T.2.1 11 0 = nI lift := j3
  have h1 : T.2.1 11 1 = nI r := j4
  obtain ⟨S', e1, e2, e3, e4, e5, e6, e7⟩ := openRound8 (ib := ib) (ab := ab) (lift := lift) (r := r + 1) (n := n) (S := S) (by omega) (hv.lift.trans h0) (by omega) (by omega)
  obtain ⟨T', f1, f2, f3, f4, f5, f6, f7, f8⟩ := roundBegins9 (k := k) (n := n') (lift := lift) (r := r + 1) (T := sA T 11 1 (nI (r + 1))) hk (by omega) hv.2.1 (by rw [sA_ne (by omega), h0]) (by rw [sA_eq]) (by omega) (by omega)
  have mm : ∀ l w, mt (sA T 11 1 (nI (r + 1))) l w = mt T l w := fun l w => sA_ne (by omega)
  have m' : ∀ l w, w < 10 → mt T' l w = if l < k ∧ w = 1 then 0 else if l < k ∧ w = 5 then chgN lift (r + 1) else mt T l w := fun l w hw => by rw [f8 l w hw, mm]
  have same : ∀ l w, w < 10 → w ≠ 1 → w ≠ 5 → mt T' l w = mt T l w := fun l w hw h1 h5 => by rw [m' l w hw, if_neg (by omega), if_neg (by omega)]
  have t1 : ∀ l, l < k → mt T' l 1 = 0 := fun l hl => by rw [m' l 1 (by omega), if_pos (by omega)]
  have t5 : ∀ l, l < k → mt T' l 5 = chgN lift (r + 1) := fun l hl => by rw [m' l 5 (by omega), if_neg (by omega), if_pos (by omega)]
  have hM : FrM ib ab S S' := ⟨fun i hi => e4 i (by omega) (by omega), fun a ha => e6 a (by omega) (by omega), e5⟩
  have h15 : T'.2.1 15 = T.2.1 15 := (f4 15 (by omega)).trans (sA_row (by omega))
  have hT : FrT T T' := by
    refine ⟨fun i _ _ _ _ => by rw [f2]; rfl, fun a h1 h2 => (f4 a h1).trans (sA_row h1), f3, fun x hx => ?_, by rw [f2]; exact Int.le_refl _, fun i _ => by rw [h15]⟩
    have := m' ((x - 3) / 10) ((x - 3) % 10) (by omega)
    rw [if_neg (by omega), if_neg (by omega)] at this
    have q : 3 + 10 * ((x - 3) / 10) + (x - 3) % 10 = x := by omega
    unfold mt at this
    rw [q] at this
    exact this
  have hJ : MeetJ lift (r + 1) 0 k (T'.2.1 11) (T'.1 13) (T'.1 14) := by
    have q13 : T'.1 13 = T.1 13 := by rw [f2]; rfl
    have q14 : T'.1 14 = T.1 14 := by rw [f2]; rfl
    rw [q13, q14]
    refine ⟨by omega, by omega, f5, f6, by rw [f7]; exact ⟨by decide, by decide⟩, fun q => absurd q (by omega), j7, j8, j9, ?_, fun _ => rfl, by omega, fun q => absurd q (by omega), ⟨fun l hl => Or.inl (t1 l hl), ?_⟩, fun l hlk => ?_⟩
    · have e : (3 * lift + (r + 1)) * k = (3 * lift + r) * k + k := by rw [← Nat.add_assoc, Nat.add_mul, Nat.one_mul]
      have e' : ((3 * (lift : Int) + ((r + 1 : Nat) : Int)) * (k : Int)) = (((3 * lift + (r + 1)) * k : Nat) : Int) := by push_cast; rfl
      have e2 : ((3 * (lift : Int) + (r : Int)) * (k : Int)) = (((3 * lift + r) * k : Nat) : Int) := by push_cast; rfl
      rw [e']
      rw [e2] at j10
      omega
    · apply cntR_none
      intro j _ hj2
      rw [show T'.2.1 11 (3 + 10 * j + 1) = 0 from t1 j (by omega)]; rfl
    · have ho := j15 l hlk
      have hc := nowait (hno l hlk) ho.1
      obtain ⟨o0, o2, o3, o4, o5, o6, o7, o8, o9, o10, o11, o12⟩ := ho
      have et : ∀ t, t < 3 → T'.2.1 11 (3 + 10 * l + 7 + t) = T.2.1 11 (3 + 10 * l + 7 + t) := fun t ht => by
        rw [Nat.add_assoc (3 + 10 * l)]; exact same l (7 + t) (by omega) (by omega) (by omega)
      have ei : itsI (T'.2.1 11) l = itsI (T.2.1 11) l := by
        unfold itsI
        rw [show T'.2.1 11 (3 + 10 * l + 2) = _ from same l 2 (by omega) (by omega) (by omega), show T'.2.1 11 (3 + 10 * l + 3) = _ from same l 3 (by omega) (by omega) (by omega)]
      unfold OwnI
      rw [show T'.2.1 11 (3 + 10 * l + 0) = _ from same l 0 (by omega) (by omega) (by omega), show T'.2.1 11 (3 + 10 * l + 1) = 0 from t1 l hlk, show T'.2.1 11 (3 + 10 * l + 2) = _ from same l 2 (by omega) (by omega) (by omega), show T'.2.1 11 (3 + 10 * l + 3) = _ from same l 3 (by omega) (by omega) (by omega), show T'.2.1 11 (3 + 10 * l + 4) = _ from same l 4 (by omega) (by omega) (by omega), show T'.2.1 11 (3 + 10 * l + 5) = _ from t5 l hlk, show T'.2.1 11 (3 + 10 * l + 6) = _ from same l 6 (by omega) (by omega) (by omega)]
      refine ⟨o0, o2, o3, o4, chgN_rg _ _, o6, fun t ht => by rw [et t ht]; exact o7 t ht, o8, fun q => absurd q (by omega), fun t ht => by rw [et t ht]; exact o10 t ht, fun t ht => by rw [et t ht]; exact o11 t ht, fun hl3 ha => ?_⟩
      rw [et lift hl3, ei]
      have hq := o12 hl3 ha
      have h11 : T.2.1 11 (3 + 10 * l + 1) = 1 := by
        rcases j14 l hlk with q | q
        · rcases hc with z | z
          · exact absurd z ha
          · exact absurd q z
        · exact q
      rw [h11] at hq
      have i1 : Int32.toInt 1 = 1 := rfl
      have i0 : Int32.toInt 0 = 0 := rfl
      rw [i1] at hq
      rw [i0]
      obtain ⟨k1, k2, k3, k4, k5, k6, k7⟩ := hq
      have k2' : (mt T l 4).toInt ≤ (r : Int) + 1 := k2
      refine ⟨by omega, by omega, k3, fun q => k4 ?_, k5, k6, fun q => k7 ?_⟩
      · have q' : (T.2.1 11 (3 + 10 * l + 4)).toInt = ((r + 1 : Nat) : Int) + 0 := q
        omega
      · have q' : (T.2.1 11 (3 + 10 * l + 4)).toInt < ((r + 1 : Nat) : Int) + 0 := q
        omega
  refine ⟨S', T', e1, f1, hv.meet hib hab hM hT ?_ hJ.mk, hM, hT, f2, h15, e6 _ (by omega) (by omega), ?_, hJ⟩
  · refine ⟨?_, ?_, ?_, ?_, ?_, ?_, ?_, ?_⟩
    · rw [e4 _ (by omega) (by omega)]; exact hv.size
    · rw [e4 _ (by omega) (by omega), f2]; exact hv.tire
    · rw [e4 _ (by omega) (by omega), f5]; exact hv.lift.trans h0
    · rw [e2, f6]
    · rw [e3, f7]
    · rw [e4 _ (by omega) (by omega), f2]; exact hv.2.2.2.2.2.1.2.2.2.2.2.1
    · rw [e4 _ (by omega) (by omega), f2]; exact hv.2.2.2.2.2.1.2.2.2.2.2.2.1
    · intro l hl2
      obtain ⟨c1, c2, c3, c4, c5, c6, c7⟩ := hv.cell hl2
      refine ⟨?_, ?_, ?_, ?_, ?_, ?_, ?_⟩
      · rw [e6 _ (by omega) (by omega), same l 0 (by omega) (by omega) (by omega)]; exact c1
      · rw [(e7 l (by omega)).1, t1 l hl2]
      · rw [(e7 l (by omega)).2, t5 l hl2]
      · rw [e6 _ (by omega) (by omega), same l 6 (by omega) (by omega) (by omega)]; exact c4
      · rw [e6 _ (by omega) (by omega), same l 4 (by omega) (by omega) (by omega)]; exact c5
      · rw [e6 _ (by omega) (by omega), same l 2 (by omega) (by omega) (by omega), same l 3 (by omega) (by omega) (by omega)]; exact c6
      · intro t ht
        rw [e6 _ (by omega) (by omega), same l (7 + t) (by omega) (by omega) (by omega)]; exact c7 t ht
  · intro hb i hi
    refine ⟨Or.inl (e7 i hi).1, ?_⟩
    rw [e6 _ (by omega) (by omega)]
    exact (hb i hi).2
theorem lEnd_L {k lift : Nat} (hk : k ≤ 6) (hl : lift < 3) : ∀ d i n T, i + d = k → d + 1 ≤ n → T.1 3 = nI k → T.2.1 11 0 = nI lift → ∃ T', m_X9_liftEnds_L2 n T (nI i) = some T' ∧ FrL T T' ∧ (∀ l w, w < 10 → mt T' l w = if i ≤ l ∧ l < k ∧ w = 6 ∧ mt T l (7 + lift) = 0 then 1 else mt T l w) := by
  intro d
  induction d with
  | zero =>
    intro i n T hi hn g3 h0
    obtain ⟨m, rfl⟩ : ∃ m, n = m + 1 := ⟨n - 1, by omega⟩
    refine ⟨T, ?_, FrL.rfl T, fun l w hw => by rw [if_neg (by omega)]⟩
    unfold m_X9_liftEnds_L2
    rw [g3, if_pos (by rw [leN (by omega) (by omega)]; omega)]
  | succ d ih =>
    intro i n T hi hn g3 h0
    obtain ⟨m, rfl⟩ : ∃ m, n = m + 1 := ⟨n - 1, by omega⟩
    unfold m_X9_liftEnds_L2
    rw [g3, if_neg (by rw [leN (by omega) (by omega)]; omega), show ∀ x : Option St, ck 0 63 x = x from fun x => rfl, show (0 : Int32).toNatClampNeg = 0 from rfl, h0, show (7 : Int32) + nI lift = nI (7 + lift) by rw [lit32 7, nI_add], of_eq (by omega) (by omega), s1]
    simp only [Option.bind_some]
    by_cases c : mt T i (7 + lift) = 0
    · rw [if_pos c, sets6 1 (by omega)]
      simp only [Option.bind_some]
      have hF := (FrL.rfl T).set i 6 1
      obtain ⟨T', e1, e2, e3⟩ := ih (i + 1) m (sA T 11 (3 + 10 * i + 6) 1) (by omega) (by omega) g3 ((hF.2.2.2 0 (by omega)).trans h0)
      refine ⟨T', e1, hF.trans e2, fun l w hw => ?_⟩
      rw [e3 l w hw, mt_set (by omega) hw, mt_set (by omega) (by omega), if_neg (show ¬ (l = i ∧ 7 + lift = 6) by omega)]
      by_cases d1 : i + 1 ≤ l ∧ l < k ∧ w = 6 ∧ mt T l (7 + lift) = 0
      · rw [if_pos d1, if_pos ⟨by omega, d1.2⟩]
      · rw [if_neg d1]
        by_cases d2 : l = i ∧ w = 6
        · rw [if_pos d2, if_pos ⟨by omega, by omega, d2.2, by rw [d2.1]; exact c⟩]
        · rw [if_neg d2, if_neg]
          intro q
          by_cases d3 : l = i
          · exact d2 ⟨d3, q.2.2.1⟩
          · exact d1 ⟨by omega, q.2⟩
    · rw [if_neg c]
      obtain ⟨T', e1, e2, e3⟩ := ih (i + 1) m T (by omega) (by omega) g3 h0
      refine ⟨T', e1, e2, fun l w hw => ?_⟩
      rw [e3 l w hw]
      by_cases d1 : i + 1 ≤ l ∧ l < k ∧ w = 6 ∧ mt T l (7 + lift) = 0
      · rw [if_pos d1, if_pos ⟨by omega, d1.2⟩]
      · rw [if_neg d1, if_neg]
        intro q
        by_cases d3 : l = i
        · subst d3; exact c q.2.2.2
        · exact d1 ⟨by omega, q.2⟩
theorem lift_same {ib ab k n n' lift done : Nat} {S T : St} (hib : 30 ≤ ib) (hab : 25 ≤ ab) (hv : VR ib ab k S T) (hn : 10 ≤ n) (hn' : 10 ≤ n') (hj : MeetJ lift 2 done k (T.2.1 11) (T.1 13) (T.1 14)) (hno : ∀ l, l < k → wt T l = false) (hk0 : 0 < k) (hl : lift < 3) :
    ∃ S' T', m_X4_closeLift ib ab n S = some S' ∧ m_X9_liftEnds n' T = some T' ∧ VR ib ab k S' T' ∧ FrM ib ab S S' ∧ FrT T T' ∧ T'.1 = T.1 ∧ T'.2.1 15 = T.2.1 15 ∧ S'.2.1 (ab + 8) = S.2.1 (ab + 8) ∧ (BitP ab S → BitP ab S') ∧ MeetJ (lift + 1) 0 0 k (T'.2.1 11) (T'.1 13) (T'.1 14) := by
  have hk := hv.1
  obtain ⟨j1, j2, j3, j4, j5, j6, j7, j8, j9, j10, j11, j12, j13, ⟨j14, j14'⟩, j15⟩ := hj
  have h0 : T.2.1 11 0 = nI lift := j3
  obtain ⟨S1, a1, a2, a3, a4, a5⟩ := cLift_L (ib := ib) (ab := ab) hk hl k 0 n S (by omega) (by omega) hv.size (hv.lift.trans h0)
  have z0 : S1.1 (ib + 2) + 1 = nI (lift + 1) := by rw [a2, hv.lift, h0, s1]
  obtain ⟨S', e1, e2, e3, e4, e5, e6, e7⟩ := openLift8 (ib := ib) (ab := ab) (k := k) (lift := lift + 1) (n := n) (S := sI S1 (ib + 2) (nI (lift + 1))) hab hk (by omega) (by omega) (by rw [sI_ne (by omega), a2]; exact hv.size) sI_eq
  obtain ⟨T1, b1, b2, b3⟩ := lEnd_L hk hl k 0 n' T (by omega) (by omega) hv.2.1 h0
  have z1 : T1.2.1 11 0 + 1 = nI (lift + 1) := by rw [b2.2.2.2 0 (by omega), h0, s1]
  obtain ⟨T', f1, f2, f3, f4, f5, f6, f7, f8⟩ := liftBegins9 (k := k) (n := n') (lift := lift + 1) (T := sA T1 11 0 (nI (lift + 1))) hk (by omega) (by show T1.1 3 = _; rw [b2.1]; exact hv.2.1) sA_eq (by omega)
  have mm : ∀ l w, mt (sA T1 11 0 (nI (lift + 1))) l w = mt T1 l w := fun l w => sA_ne (by omega)
  have o6 : ∀ l, l < k → mt T1 l 6 = if mt T l (7 + lift) = 0 then 1 else mt T l 6 := fun l hlk => by
    rw [b3 l 6 (by omega)]
    by_cases c : mt T l (7 + lift) = 0
    · rw [if_pos ⟨by omega, hlk, rfl, c⟩, if_pos c]
    · rw [if_neg (fun q => c q.2.2.2), if_neg c]
  have osame : ∀ l w, w < 10 → w ≠ 6 → mt T1 l w = mt T l w := fun l w hw h6 => by rw [b3 l w hw, if_neg (by omega)]
  have r9 : (sA T1 11 0 (nI (lift + 1))).2.1 9 = T.2.1 9 := (sA_row (by omega)).trans (b2.2.2.1 9 (by omega))
  have t0 : ∀ l, l < k → mt T' l 0 = if lift + 1 < 3 ∧ ¬ mt T1 l 6 = 1 then T.2.1 9 (3 * (3 * l + (lift + 1))) else 0 := fun l hlk => by
    rw [f8 l 0 (by omega), if_pos hlk, if_neg (by omega), if_neg (by omega)]
    unfold lbV askR
    rw [if_pos rfl, mm, r9]
  have t1 : ∀ l, l < k → mt T' l 1 = 0 := fun l hlk => by rw [f8 l 1 (by omega), if_pos hlk, if_pos rfl]
  have t2 : ∀ l, l < k → mt T' l 2 = 0 := fun l hlk => by rw [f8 l 2 (by omega), if_pos hlk, if_neg (by omega), if_neg (by omega)]; rfl
  have t3 : ∀ l, l < k → mt T' l 3 = 0 := fun l hlk => by rw [f8 l 3 (by omega), if_pos hlk, if_neg (by omega), if_neg (by omega)]; rfl
  have t4 : ∀ l, l < k → mt T' l 4 = 0 := fun l hlk => by rw [f8 l 4 (by omega), if_pos hlk, if_neg (by omega), if_neg (by omega)]; rfl
  have t5 : ∀ l, l < k → mt T' l 5 = chgN (lift + 1) 0 := fun l hlk => by rw [f8 l 5 (by omega), if_pos hlk, if_neg (by omega), if_pos rfl]
  have t6 : ∀ l, l < k → mt T' l 6 = mt T1 l 6 := fun l hlk => by
    rw [f8 l 6 (by omega), if_pos hlk, if_neg (by omega), if_neg (by omega)]
    unfold lbV
    rw [if_neg (by omega), if_neg (by omega), mm]
  have t7 : ∀ l t, l < k → t < 3 → mt T' l (7 + t) = mt T l (7 + t) := fun l t hlk ht => by
    rw [f8 l (7 + t) (by omega), if_pos hlk, if_neg (by omega), if_neg (by omega)]
    unfold lbV
    rw [if_neg (by omega), if_neg (by omega), mm, osame l (7 + t) (by omega) (by omega)]
  have hM : FrM ib ab S S' := ⟨fun i hi => by rw [e4 i (by omega) (by omega), sI_ne (by omega), a2], fun a ha => by rw [e6 a (by omega) (by omega) (by omega) (by omega) (by omega)]; exact a4 a (by omega), by rw [e5]; exact a3⟩
  have h15 : T'.2.1 15 = T.2.1 15 := (f4 15 (by omega)).trans ((sA_row (by omega)).trans (b2.2.2.1 15 (by omega)))
  have ht1 : T'.1 = T.1 := by rw [f2]; exact b2.1
  have hT : FrT T T' := by
    refine ⟨fun i _ _ _ _ => by rw [ht1], fun a h1 h2 => (f4 a h1).trans ((sA_row h1).trans (b2.2.2.1 a h1)), f3.trans b2.2.1, fun x hx => ?_, by rw [ht1]; exact Int.le_refl _, fun i _ => by rw [h15]⟩
    have := f8 ((x - 3) / 10) ((x - 3) % 10) (by omega)
    rw [if_neg (by omega), mm, b3 _ _ (by omega), if_neg (by omega)] at this
    have q : 3 + 10 * ((x - 3) / 10) + (x - 3) % 10 = x := by omega
    unfold mt at this
    rw [q] at this
    exact this
  have out01 : ∀ l, l < k → mt T1 l 6 = 0 ∨ mt T1 l 6 = 1 := fun l hlk => by
    rw [o6 l hlk]
    by_cases c : mt T l (7 + lift) = 0
    · rw [if_pos c]; exact Or.inr rfl
    · rw [if_neg c]; exact rg01 (j15 l hlk).2.2.2.2.2.1
  have hJ : MeetJ (lift + 1) 0 0 k (T'.2.1 11) (T'.1 13) (T'.1 14) := by
    rw [ht1]
    refine ⟨by omega, by omega, f5, f6, by rw [f7]; exact ⟨by decide, by decide⟩, fun _ => ⟨rfl, f7⟩, j7, j8, j9, ?_, fun _ => rfl, by omega, fun q => absurd q (by omega), ⟨fun l hl => Or.inl (t1 l hl), ?_⟩, fun l hlk => ?_⟩
    · have e : (3 * (lift + 1) + 0) * k = (3 * lift + 2) * k + k := by rw [show 3 * (lift + 1) + 0 = (3 * lift + 2) + 1 by omega, Nat.add_mul, Nat.one_mul]
      have e' : ((3 * ((lift + 1 : Nat) : Int) + ((0 : Nat) : Int)) * (k : Int)) = (((3 * (lift + 1) + 0) * k : Nat) : Int) := by push_cast; rfl
      have e2 : ((3 * (lift : Int) + ((2 : Nat) : Int)) * (k : Int)) = (((3 * lift + 2) * k : Nat) : Int) := by push_cast; rfl
      rw [e', e]
      rw [e2] at j10
      omega
    · apply cntR_none
      intro j _ hj2
      rw [show T'.2.1 11 (3 + 10 * j + 1) = 0 from t1 j (by omega)]; rfl
    · obtain ⟨o0, o2, o3, o4, o5, oo6, o7, o8, o9, o10, o11, o12⟩ := j15 l hlk
      have et : ∀ t, t < 3 → T'.2.1 11 (3 + 10 * l + 7 + t) = T.2.1 11 (3 + 10 * l + 7 + t) := fun t ht => by
        rw [Nat.add_assoc (3 + 10 * l)]; exact t7 l t hlk ht
      have eL : mt T l (7 + lift) = T.2.1 11 (3 + 10 * l + 7 + lift) := by rw [Nat.add_assoc (3 + 10 * l)]
      have hpl : ∀ t, t < 3 → Rg (T.2.1 9 (3 * (3 * l + t))) 1 40 := fun t ht => ((hv.2.2.2.1 l hlk).2.2.2.2.1 t ht).2.1
      unfold OwnI itsI
      rw [show T'.2.1 11 (3 + 10 * l + 0) = _ from t0 l hlk, show T'.2.1 11 (3 + 10 * l + 1) = 0 from t1 l hlk, show T'.2.1 11 (3 + 10 * l + 2) = 0 from t2 l hlk, show T'.2.1 11 (3 + 10 * l + 3) = 0 from t3 l hlk, show T'.2.1 11 (3 + 10 * l + 4) = 0 from t4 l hlk, show T'.2.1 11 (3 + 10 * l + 5) = _ from t5 l hlk, show T'.2.1 11 (3 + 10 * l + 6) = _ from t6 l hlk]
      have z00 : Rg (0 : Int32) 0 40 := ⟨by decide, by decide⟩
      refine ⟨?_, z00, ⟨by decide, by decide⟩, ⟨by decide, by decide⟩, chgN_rg _ _, ?_, fun t ht => by rw [et t ht]; exact o7 t ht, ?_, ?_, ?_, ?_, ?_⟩
      · split
        · rename_i q
          have := hpl (lift + 1) q.1
          exact ⟨by have := this.1; omega, this.2⟩
        · exact z00
      · rcases out01 l hlk with q | q <;> rw [q] <;> exact ⟨by decide, by decide⟩
      · intro q
        rw [if_neg (fun z => z.2 q)]
      · intro q
        rw [if_neg (by omega)]
        refine ⟨rfl, ?_⟩
        unfold chgN
        rw [if_neg (by omega)]
      · intro t ht q
        rw [et t ht]
        exact o10 t ht (by omega)
      · intro t ht q q6
        rw [et t ht]
        rw [o6 l hlk] at q6
        by_cases c : mt T l (7 + lift) = 0
        · rw [if_pos c] at q6; exact absurd q6 (by decide)
        · rw [if_neg c] at q6
          by_cases ct : t = lift
          · subst ct
            rw [eL] at c
            have := o7 t ht
            rcases Int.lt_or_le (T.2.1 11 (3 + 10 * l + 7 + t)).toInt 1 with z | z
            · exfalso
              apply c
              rw [eq32]
              have e : Int32.toInt 0 = 0 := rfl
              have := this.1
              omega
            · exact z
          · exact o11 t ht (by omega) q6
      · intro hl3 ha
        have i0 : Int32.toInt 0 = 0 := rfl
        have i1 : Int32.toInt 1 = 1 := rfl
        have hb0 : T'.2.1 11 (3 + 10 * l + 7 + (lift + 1)) = 0 := by rw [et (lift + 1) hl3]; exact o10 (lift + 1) hl3 (by omega)
        rw [hb0, if_pos rfl, i0]
        refine ⟨by omega, by omega, fun _ => by omega, fun _ => rfl, by omega, ?_, fun q => absurd q (by omega)⟩
        by_cases q : lift + 1 < 3 ∧ ¬ mt T1 l 6 = 1
        · rw [if_pos q]; exact (hpl (lift + 1) hl3).1
        · rw [if_neg q] at ha; exact absurd rfl ha
  refine ⟨S', T', ?_, ?_, hv.meet hib hab hM hT ?_ hJ.mk, hM, hT, ht1, h15, ?_, ?_, hJ⟩
  · unfold m_X4_closeLift
    simp only [nmE]
    rw [show m_X4_closeLift_L2 ib ab n S 0 = some S1 from a1]
    simp only [Option.bind_some]
    rw [z0, e1]
    rfl
  · unfold m_X9_liftEnds
    simp only [nmE]
    rw [show m_X9_liftEnds_L2 n' T 0 = some T1 from b1]
    simp only [Option.bind_some]
    rw [show ∀ x : Option St, ck 0 63 x = x from fun x => rfl, show ∀ x : Option St, ck 0 63 x = x from fun x => rfl, show (0 : Int32).toNatClampNeg = 0 from rfl, z1, f1]
    rfl
  · have u4 : ∀ j, S'.2.1 (ab + 4) j = S1.2.1 (ab + 4) j := fun j => by rw [e6 _ (by omega) (by omega) (by omega) (by omega) (by omega)]; rfl
    have v4 : ∀ l, l < k → S1.2.1 (ab + 4) l = mt T1 l 6 := fun l hlk => by
      rw [a5 l, o6 l hlk, (hv.cell hlk).2.2.2.2.2.2 lift hl, (hv.cell hlk).2.2.2.1]
      by_cases c : mt T l (7 + lift) = 0
      · rw [if_pos ⟨by omega, hlk, c⟩, if_pos c]
      · rw [if_neg (fun q => c q.2.2), if_neg c]
    refine ⟨?_, ?_, ?_, ?_, ?_, ?_, ?_, ?_⟩
    · rw [hM.1 _ (by omega)]; exact hv.size
    · rw [hM.1 _ (by omega), ht1]; exact hv.tire
    · rw [e4 _ (by omega) (by omega), sI_eq, f5]
    · rw [e2, f6]
    · rw [e3, f7]
    · rw [e4 _ (by omega) (by omega), sI_ne (by omega), a2, ht1]; exact hv.2.2.2.2.2.1.2.2.2.2.2.1
    · rw [e4 _ (by omega) (by omega), sI_ne (by omega), a2, ht1]; exact hv.2.2.2.2.2.1.2.2.2.2.2.2.1
    · intro l hlk
      obtain ⟨c1, c2, c3, c4, c5, c6, c7⟩ := hv.cell hlk
      obtain ⟨p1, p2, p3, p4, p5⟩ := e7 l (by omega)
      refine ⟨?_, ?_, ?_, ?_, ?_, ?_, ?_⟩
      · rw [p1, t0 l hlk]
        unfold askC
        rw [show (sI S1 (ib + 2) (nI (lift + 1))).2.1 (ab + 4) l = _ from v4 l hlk, show (sI S1 (ib + 2) (nI (lift + 1))).2.1 (6 + 3 * l) = S.2.1 (6 + 3 * l) from a4 _ (by omega)]
        by_cases q : lift + 1 < 3
        · have hpe : S.2.1 (6 + 3 * l) (3 * (lift + 1)) = T.2.1 9 (3 * (3 * l + (lift + 1))) := ((hv.2.2.2.1 l hlk).2.2.2.2.1 (lift + 1) q).1 0 (by omega)
          rcases out01 l hlk with z | z
          · rw [z, if_pos ⟨hlk, q, rfl⟩, if_pos ⟨q, by decide⟩]
            exact hpe
          · rw [z, if_neg (fun z => absurd z.2.2 (by decide)), if_neg (fun z => z.2 rfl)]
        · rw [if_neg (fun z => q z.2.1), if_neg (fun z => q z.1)]
      · rw [p2, t1 l hlk]
      · rw [p3, t5 l hlk]
      · rw [u4, v4 l hlk, t6 l hlk]
      · rw [p4, t4 l hlk]
      · rw [p5, t2 l hlk, if_pos rfl]
      · intro t ht
        rw [e6 _ (by omega) (by omega) (by omega) (by omega) (by omega), t7 l t hlk ht]
        show S1.2.1 (ab + 5) (3 * l + t) = _
        rw [a4 _ (by omega)]; exact c7 t ht
  · rw [e6 _ (by omega) (by omega) (by omega) (by omega) (by omega)]
    exact a4 _ (by omega)
  · intro hb i hi
    refine ⟨Or.inl (e7 i hi).2.1, ?_⟩
    rw [e6 _ (by omega) (by omega) (by omega) (by omega) (by omega)]
    show S1.2.1 (ab + 4) i = 0 ∨ S1.2.1 (ab + 4) i = 1
    rw [a5 i]
    split
    · exact Or.inr rfl
    · exact (hb i hi).2
/-- both go on -/
theorem goOn_same {ib ab k : Nat} (hib : 30 ≤ ib) (hab : 25 ≤ ab) : ∀ d i n n' S T lift round done, VR ib ab k S T → MeetJ lift round done k (T.2.1 11) (T.1 13) (T.1 14) → 3 * lift + round + d = 9 → i ≤ 3 * lift + round → d + 40 ≤ n → d + 40 ≤ n' →
    ∃ S' T', m_X4_goOn_L2 ib ab n S (nI i) = some S' ∧ m_X9_goesOn_L0 n' T = some T' ∧ VR ib ab k S' T' ∧ FrM ib ab S S' ∧ FrT T T' ∧ T'.1 = T.1 ∧ T'.2.1 15 = T.2.1 15 ∧ S'.2.1 (ab + 8) = S.2.1 (ab + 8) ∧ (BitP ab S → BitP ab S') := by
  intro d
  induction d using Nat.strongRecOn with
  | ind d ih =>
    intro i n n' S T lift round done hv hj hd hi hn hn'
    obtain ⟨m, rfl⟩ : ∃ m, n = m + 1 := ⟨n - 1, by omega⟩
    obtain ⟨m', rfl⟩ : ∃ m, n' = m + 1 := ⟨n' - 1, by omega⟩
    have hk := hv.1
    have hstop : ∃ S' T', some S = some S' ∧ some T = some T' ∧ VR ib ab k S' T' ∧ FrM ib ab S S' ∧ FrT T T' ∧ T'.1 = T.1 ∧ T'.2.1 15 = T.2.1 15 ∧ S'.2.1 (ab + 8) = S.2.1 (ab + 8) ∧ (BitP ab S → BitP ab S') := ⟨S, T, rfl, rfl, hv, FrM.rfl S, FrT.rfl T, rfl, rfl, rfl, fun h => h⟩
    have h0 : T.2.1 11 0 = nI lift := hj.2.2.1
    have h1 : T.2.1 11 1 = nI round := hj.2.2.2.1
    have hl3 : lift ≤ 3 := hj.1
    have hr2 : round ≤ 2 := hj.2.1
    unfold m_X4_goOn_L2 m_X9_goesOn_L0
    rw [hv.size, hv.2.1, hv.lift, hv.round, h0, h1, isOver_eq, h0]
    simp only [Option.bind_some, show (1 : Int32).toNatClampNeg = 1 from rfl, h1]
    rw [lit32 9, lit32 3, ifleN (by omega) (by omega), ifle0N (by omega), ifleN (by omega) (by omega), ifle0N (by omega)]
    by_cases c0 : k ≤ 0
    · rw [if_pos c0, if_pos c0]
      have : (if 9 ≤ i then some S else some S) = some S := by split <;> rfl
      rw [this]
      exact hstop
    · rw [if_neg c0, if_neg c0]
      by_cases c3 : lift = 3
      · rw [if_pos (show nI lift = nI 3 by rw [c3])]
        rw [if_pos (show 3 ≤ lift by omega), if_neg (show ¬ (1 : Int32) = 0 by decide)]
        have : (if 9 ≤ i then some S else some S) = some S := by split <;> rfl
        rw [this]
        exact hstop
      · have ne3 : ¬ nI lift = nI 3 := by rw [eqN (by omega) (by omega)]; exact c3
        rw [if_neg (show ¬ 9 ≤ i by omega), if_neg ne3, if_neg (show ¬ 3 ≤ lift by omega), if_pos rfl]
        obtain ⟨r, q1, q2, q3⟩ := called_same hv (n := m) (n' := m') (by omega) (by omega)
        rw [q1, q2]
        simp only [Option.bind_some]
        rcases q3 with ⟨rfl, hno⟩ | ⟨l, hl, rfl, hw, hmin⟩
        · rw [if_neg (by decide), if_pos rfl, lit32 2, ifleN (by omega) (by omega)]
          rw [show ∀ x : Option St, ck 1 63 x = x from fun x => rfl, show ∀ x : Option St, ck 1 63 x = x from fun x => rfl, show ∀ x : Option St, ck 1 63 x = x from fun x => rfl, ifeqN (by omega) (by omega)]
          by_cases cr : round = 2
          · rw [if_pos cr, if_pos (by omega)]
            subst cr
            obtain ⟨S1, T1, e1, e2, e3, e4, e5, e6, e7, e8, e9, e10⟩ := lift_same hib hab hv (n := m) (n' := m') (by omega) (by omega) hj hno (by omega) (by omega)
            rw [e1, e2]
            simp only [Option.bind_some]
            obtain ⟨S', T', f1, f2, f3, f4, f5, f6, f7, f8, f9⟩ := ih (d - 1) (by omega) (i + 1) m m' S1 T1 (lift + 1) 0 0 e3 e10 (by omega) (by omega) (by omega) (by omega)
            rw [s1]
            exact ⟨S', T', f1, f2, f3, e4.trans f4, e5.trans f5, f6.trans e6, f7.trans e7, f8.trans e8, fun h => f9 (e9 h)⟩
          · rw [if_neg cr, if_neg (by omega)]
            obtain ⟨S1, T1, e1, e2, e3, e4, e5, e6, e7, e8, e9, e10⟩ := round_same hib hab hv (n := m) (n' := m') (by omega) (by omega) hj hno (by omega) (by omega) (by omega)
            rw [s1, nmE, e1, e2]
            simp only [Option.bind_some]
            obtain ⟨S', T', f1, f2, f3, f4, f5, f6, f7, f8, f9⟩ := ih (d - 1) (by omega) (i + 1) m m' S1 T1 lift (round + 1) 0 e3 e10 (by omega) (by omega) (by omega) (by omega)
            rw [s1]
            exact ⟨S', T', f1, f2, f3, e4.trans f4, e5.trans f5, f6.trans e6, f7.trans e7, f8.trans e8, fun h => f9 (e9 h)⟩
        · rw [if_pos (show (0 : Int32) ≤ nI l by rw [show (0 : Int32) = nI 0 from rfl, leN (by omega) (by omega)]; omega), if_neg (nI_ne_m1 (by omega))]
          exact hstop
theorem goOn_both {ib ab k n n' : Nat} {S T : St} (hib : 30 ≤ ib) (hab : 25 ≤ ab) (hv : VR ib ab k S T) (hn : 49 ≤ n) (hn' : 49 ≤ n') :
    ∃ S' T', m_X4_goOn ib ab n S = some S' ∧ m_X9_goesOn n' T = some T' ∧ VR ib ab k S' T' ∧ FrM ib ab S S' ∧ FrT T T' ∧ T'.1 = T.1 ∧ T'.2.1 15 = T.2.1 15 ∧ S'.2.1 (ab + 8) = S.2.1 (ab + 8) ∧ (BitP ab S → BitP ab S') := by
  obtain ⟨lift, round, done, hj⟩ := hv.2.2.2.2.2.2.at
  have h6 := hj.2.2.2.2.2.1
  have hl := hj.1
  have hr := hj.2.1
  have hsum : 3 * lift + round ≤ 9 := by
    by_cases c : lift = 3
    · have := (h6 c).1; omega
    · omega
  obtain ⟨S', T', f1, f2, f3⟩ := goOn_same hib hab (9 - (3 * lift + round)) 0 n n' S T lift round done hv hj (by omega) (by omega) (by omega) (by omega)
  refine ⟨S', T', ?_, ?_, f3⟩
  · unfold m_X4_goOn
    rw [show m_X4_goOn_L2 ib ab n S 0 = some S' from f1]; rfl
  · unfold m_X9_goesOn
    rw [f2]; rfl
