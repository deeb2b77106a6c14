/-! ===== layer B: one lifter now; mass, chance ===== -/
/-- the numbers of one lifter now -/
def Now (T : St) (l lift round a d f o : Nat) (bb : Nat → Nat) : Prop :=
  lift ≤ 3 ∧ round ≤ 2 ∧ T.2.1 11 0 = nI lift ∧ T.2.1 11 1 = nI round ∧ mt T l 0 = nI a ∧ a ≤ 40 ∧ mt T l 1 = nI d ∧ d ≤ 1 ∧ mt T l 4 = nI f ∧ f ≤ 3 ∧ mt T l 6 = nI o ∧ o ≤ 1 ∧
  (∀ t, t < 3 → mt T l (7 + t) = nI (bb t) ∧ bb t ≤ 40) ∧ (∀ t, t < 3 → lift < t → bb t = 0) ∧ (lift = 3 → a = 0) ∧ (o = 1 → a = 0) ∧
  (lift < 3 → a ≠ 0 → round + d ≤ 2 ∧ f ≤ round + d ∧ (f = 0 → (bb lift : Int) + 1 = itsI (T.2.1 11) l) ∧ (f = round + d → bb lift = 0) ∧ (bb lift : Int) < itsI (T.2.1 11) l ∧ itsI (T.2.1 11) l ≤ (a : Int) ∧ (f < round + d → 1 ≤ bb lift))
theorem now_of {ib ab k l : Nat} {S T : St} (hv : VR ib ab k S T) (hl : l < k) : ∃ lift round a d f o bb, Now T l lift round a d f o bb := by
  obtain ⟨lift, round, done, j1, j2, j3, j4, j5, j6, j7, j8, j9, j10, j11, j12, j13, ⟨j14, j14'⟩, j15⟩ := hv.2.2.2.2.2.2.at
  obtain ⟨o0, o2, o3, o4, o5, o6, o7, o8, o9, o10, o11, o12⟩ := j15 l hl
  obtain ⟨a, ha, ea⟩ := o0.nat (n := 40)
  obtain ⟨f, hf, ef⟩ := o4.nat (n := 3)
  obtain ⟨o, ho, eo⟩ := o6.nat (n := 1)
  obtain ⟨d, hd, ed⟩ : ∃ d : Nat, d ≤ 1 ∧ T.2.1 11 (3 + 10 * l + 1) = nI d := by
    rcases j14 l hl with q | q
    · exact ⟨0, by omega, q⟩
    · exact ⟨1, by omega, q⟩
  have hbt : ∀ t, t < 3 → T.2.1 11 (3 + 10 * l + 7 + t) = nI ((T.2.1 11 (3 + 10 * l + 7 + t)).toNatClampNeg) ∧ (T.2.1 11 (3 + 10 * l + 7 + t)).toNatClampNeg ≤ 40 := fun t ht => by
    obtain ⟨b, hb, eb⟩ := (o7 t ht).nat (n := 40)
    rw [eb, clN (by omega)]
    exact ⟨rfl, hb⟩
  refine ⟨lift, round, a, d, f, o, fun t => (T.2.1 11 (3 + 10 * l + 7 + t)).toNatClampNeg, j1, j2, j3, j4, ea, ha, ed, hd, ef, hf, eo, ho, fun t ht => ?_, fun t ht q => ?_, fun q => ?_, fun q => ?_, fun q1 q2 => ?_⟩
  · have := hbt t ht
    refine ⟨?_, this.2⟩
    rw [← this.1]
    show T.2.1 11 (3 + 10 * l + (7 + t)) = _
    rw [Nat.add_assoc (3 + 10 * l)]
  · show (T.2.1 11 (3 + 10 * l + 7 + t)).toNatClampNeg = 0
    rw [o10 t ht q]; rfl
  · have := (o9 q).1
    rw [ea, show (0 : Int32) = nI 0 from rfl, eqN (by omega) (by omega)] at this
    exact this
  · have := o8 (by rw [eo, q]; rfl)
    rw [ea, show (0 : Int32) = nI 0 from rfl, eqN (by omega) (by omega)] at this
    exact this
  · have hq := o12 q1 (by rw [ea, ne_eq, show (0 : Int32) = nI 0 from rfl, eqN (by omega) (by omega)]; exact q2)
    have hb := hbt lift q1
    rw [ed, ef, ea, hb.1, tiN (by omega), tiN (by omega), tiN (by omega), tiN (by omega)] at hq
    obtain ⟨k1, k2, k3, k4, k5, k6, k7⟩ := hq
    refine ⟨by omega, by omega, fun z => k3 (by rw [z]; rfl), fun z => ?_, k5, k6, fun z => by have := k7 (by omega); show 1 ≤ (T.2.1 11 (3 + 10 * l + 7 + lift)).toNatClampNeg; omega⟩
    have := k4 (by omega)
    rw [show (0 : Int32) = nI 0 from rfl, eqN (by omega) (by omega)] at this
    exact this
/-- the sum of the lifts before -/
def sB (bb : Nat → Nat) : Nat → Nat
  | 0 => 0
  | t + 1 => sB bb t + bb t
theorem sB_le {bb : Nat → Nat} (h : ∀ t, t < 3 → bb t ≤ 40) : ∀ t, t ≤ 3 → sB bb t ≤ 40 * t := by
  intro t
  induction t with
  | zero => intro _; exact Nat.le_refl _
  | succ t ih =>
    intro ht
    have h1 := ih (by omega)
    have h2 := h t (by omega)
    show sB bb t + bb t ≤ 40 * (t + 1)
    omega
theorem Now.smE {T : St} {l lift round a d f o : Nat} {bb : Nat → Nat} (h : Now T l lift round a d f o bb) : sm T l = nI (if o = 1 then 0 else sB bb 3) := by
  obtain ⟨h1, h2, h3, h4, h5, h6, h7, h8, h9, h10, h11, h12, h13, h14, h15, h16, h17⟩ := h
  unfold sm
  rw [h11]
  by_cases c : o = 1
  · rw [if_pos c, if_pos (by rw [c]; rfl)]; rfl
  · rw [if_neg c, if_neg (fun q => c (by rw [show (1 : Int32) = nI 1 from rfl, eqN (by omega) (by omega)] at q; exact q)), show mt T l 7 = nI (bb 0) from (h13 0 (by omega)).1, show mt T l 8 = nI (bb 1) from (h13 1 (by omega)).1, show mt T l 9 = nI (bb 2) from (h13 2 (by omega)).1, nI_add, nI_add]
    show _ = nI (0 + bb 0 + bb 1 + bb 2)
    rw [Nat.zero_add]
/-- the tries that are left -/
def leftN (round a d : Nat) : Nat := if a = 0 then 0 else 3 - (round + d)
theorem look8 {k l lift round a d f o : Nat} {bb : Nat → Nat} {S T : St} (hv : VR 30 25 k S T) (hl : l < k) (hN : Now T l lift round a d f o bb) :
    ∃ S', m_X5_look S (nI l) = some S' ∧ (∀ i, (i < 50 ∨ 57 < i) → S'.1 i = S.1 i) ∧ S'.2 = S.2 ∧ S'.1 50 = nI o ∧ S'.1 51 = nI lift ∧ S'.1 52 = nI (if o = 1 then 0 else sB bb lift) ∧ S'.1 53 = nI (if lift < 3 then bb lift else 0) ∧ S'.1 54 = nI f ∧ S'.1 55 = nI a ∧ S'.1 56 = lst T l ∧ S'.1 57 = nI (leftN round a d) := by
  have hk := hv.1
  obtain ⟨h1, h2, h3, h4, h5, h6, h7, h8, h9, h10, h11, h12, h13, h14, h15, h16, h17⟩ := id hN
  obtain ⟨c1, c2, c3, c4, c5, c6, c7⟩ := hv.cell hl
  have kb : ∀ (x : Option St), ckb (nI o) x = x := fun x => by
    rcases (by omega : o = 0 ∨ o = 1) with q | q <;> subst q <;> rfl
  have e29 : S.2.1 29 l = nI o := c4.trans h11
  have e32 : S.1 32 = nI lift := hv.lift.trans h3
  have e33 : S.1 33 = nI round := hv.round.trans h4
  -- the best of this lift
  obtain ⟨b, hb, hb40⟩ : ∃ b, b = (if lift < 3 then bb lift else 0) ∧ b ≤ 40 := ⟨_, rfl, by split; exact (h13 lift (by omega)).2; omega⟩
  have hsum : sB bb 3 = sB bb lift + b := by
    rw [hb]
    by_cases c : lift < 3
    · rw [if_pos c]
      rcases (by omega : lift = 0 ∨ lift = 1 ∨ lift = 2) with q | q | q <;> subst q
      · have := h14 1 (by omega) (by omega)
        have := h14 2 (by omega) (by omega)
        show 0 + bb 0 + bb 1 + bb 2 = 0 + bb 0
        omega
      · have := h14 2 (by omega) (by omega)
        show 0 + bb 0 + bb 1 + bb 2 = 0 + bb 0 + bb 1
        omega
      · rfl
    · rw [if_neg c, show lift = 3 by omega]
      rfl
  have hs3 : sB bb 3 ≤ 120 := sB_le (fun t ht => (h13 t ht).2) 3 (by omega)
  let S3 : St := sI (sI S 50 (nI o)) 51 (nI lift)
  let S10 : St := sI S3 53 (nI b)
  let S17 : St := sI S10 52 (nI (if o = 1 then 0 else sB bb lift))
  let S20 : St := sI S17 54 (nI f)
  let S23 : St := sI S20 55 (nI a)
  let S27 : St := sI S23 56 (lst T l)
  have hv10 : VR 30 25 k S10 T := hv.congr ⟨fun i q1 q2 => by show (sI (sI (sI S 50 _) 51 _) 53 _).1 i = _; rw [sI_ne (by omega), sI_ne (by omega), sI_ne (by omega)], fun _ _ => rfl⟩ (EqT.rfl T)
  have hv23 : VR 30 25 k S23 T := hv.congr ⟨fun i q1 q2 => by show (sI (sI (sI (sI (sI (sI S 50 _) 51 _) 53 _) 52 _) 54 _) 55 _).1 i = _; rw [sI_ne (by omega), sI_ne (by omega), sI_ne (by omega), sI_ne (by omega), sI_ne (by omega), sI_ne (by omega)], fun _ _ => rfl⟩ (EqT.rfl T)
  have hq8 : ((if 3 ≤ (S3.1 51) then (some 0) else (ck ((nI l * 3) + (S3.1 51)) 18 (some (S3.2.1 30 ((nI l * 3) + (S3.1 51)).toNatClampNeg))) : Option (Int32))) = some (nI b) := by
    rw [show S3.1 51 = nI lift from rfl, lit32 3, ifleN (by omega) (by omega), ← lit32 3, m3, nI_add]
    by_cases c : lift < 3
    · rw [if_neg (by omega), ckN (by omega) (by omega), clN (by omega), show S3.2.1 30 (3 * l + lift) = _ from c7 lift c, (h13 lift c).1, hb, if_pos c]
    · rw [if_pos (by omega), hb, if_neg c]; rfl
  have hlook : m_X5_look S (nI l) = some (sI S27 57 (nI (leftN round a d))) := by
    unfold m_X5_look
    simp only [nmE]
    rw [ckN (by omega) (by omega), clN (by omega), e29, kb, show (sI S 50 (nI o)).1 32 = nI lift from e32, show ((if 3 ≤ ((sI (sI S 50 (nI o)) 51 (nI lift)).1 51) then (some 0) else (ck ((nI l * 3) + ((sI (sI S 50 (nI o)) 51 (nI lift)).1 51)) 18 (some ((sI (sI S 50 (nI o)) 51 (nI lift)).2.1 30 ((nI l * 3) + ((sI (sI S 50 (nI o)) 51 (nI lift)).1 51)).toNatClampNeg))) : Option (Int32))) = some (nI b) from hq8]
    simp only [Option.bind_some]
    rw [show m_X4_sumOf 30 25 (sI (sI (sI S 50 (nI o)) 51 (nI lift)) 53 (nI b)) (nI l) = some (sm T l) from sum8 hv10 hl, hN.smE]
    simp only [Option.bind_some]
    rw [show (sI (sI (sI S 50 (nI o)) 51 (nI lift)) 53 (nI b)).1 50 = nI o from rfl, show (sI (sI (sI S 50 (nI o)) 51 (nI lift)) 53 (nI b)).1 53 = nI b from rfl, if0N (by omega)]
    have hq15 : ((if o = 0 then (some (nI b)) else (some 0) : Option Int32)) = some (nI (if o = 0 then b else 0)) := by split <;> rfl
    rw [hq15]
    simp only [Option.bind_some]
    have e52 : nI (if o = 1 then 0 else sB bb 3) - nI (if o = 0 then b else 0) = nI (if o = 1 then 0 else sB bb lift) := by
      rcases (by omega : o = 0 ∨ o = 1) with q | q
      · rw [if_neg (by omega), if_pos q, if_neg (by omega), subN (by omega)]; congr 1; omega
      · rw [if_pos q, if_neg (by omega), if_pos q]; rfl
    rw [e52, ckN (by omega) (by omega), ckN (by omega) (by omega), show (sI (sI (sI (sI S 50 (nI o)) 51 (nI lift)) 53 (nI b)) 52 (nI (if o = 1 then 0 else sB bb lift))).2.1 31 l = nI f from c5.trans h9, show (sI (sI (sI (sI (sI S 50 (nI o)) 51 (nI lift)) 53 (nI b)) 52 (nI (if o = 1 then 0 else sB bb lift))) 54 (nI f)).2.1 26 l = nI a from c1.trans h5]
    rw [show m_X4_leastOf 30 25 (sI (sI (sI (sI (sI (sI S 50 (nI o)) 51 (nI lift)) 53 (nI b)) 52 (nI (if o = 1 then 0 else sB bb lift))) 54 (nI f)) 55 (nI a)) (nI l) = some (lst T l) from least8 hv23 hl]
    simp only [Option.bind_some]
    rw [show (sI (sI (sI (sI (sI (sI (sI S 50 (nI o)) 51 (nI lift)) 53 (nI b)) 52 (nI (if o = 1 then 0 else sB bb lift))) 54 (nI f)) 55 (nI a)) 56 (lst T l)).1 55 = nI a from rfl, if0N (by omega)]
    by_cases ca : a = 0
    · rw [if_pos ca]
      unfold leftN
      rw [if_pos ca]
      rfl
    · rw [if_neg ca, ckN (by omega) (by omega), show (sI (sI (sI (sI (sI (sI (sI S 50 (nI o)) 51 (nI lift)) 53 (nI b)) 52 (nI (if o = 1 then 0 else sB bb lift))) 54 (nI f)) 55 (nI a)) 56 (lst T l)).2.1 27 l = nI d from c2.trans h7, show (sI (sI (sI (sI (sI (sI (sI S 50 (nI o)) 51 (nI lift)) 53 (nI b)) 52 (nI (if o = 1 then 0 else sB bb lift))) 54 (nI f)) 55 (nI a)) 56 (lst T l)).1 33 = nI round from e33, if0N (by omega)]
      unfold leftN
      rw [if_neg ca]
      by_cases cd : d = 0
      · rw [if_pos cd, lit32 3, subN (by omega), show (0 : Int32) = nI 0 from rfl, subN (by omega), cd]; rfl
      · rw [if_neg cd, lit32 3, subN (by omega), lit32 1, subN (by omega), show 3 - (round + d) = 3 - round - 1 by omega]
  refine ⟨_, hlook, fun i hi => ?_, rfl, rfl, rfl, rfl, ?_, rfl, rfl, rfl, rfl⟩
  · show (sI (sI (sI (sI (sI (sI (sI (sI S 50 _) 51 _) 53 _) 52 _) 54 _) 55 _) 56 _) 57 _).1 i = _
    rw [sI_ne (by omega), sI_ne (by omega), sI_ne (by omega), sI_ne (by omega), sI_ne (by omega), sI_ne (by omega), sI_ne (by omega), sI_ne (by omega)]
  · rw [← hb]; rfl
/-- what comes of the plan of a lifter now -/
def pvN (T : St) (l lift round a d f o : Nat) (bb : Nat → Nat) (out : Nat) (W : Nat → Nat) (e : Nat) : Nat :=
  if o = 1 then out else if lift < 3 then pvL (odN T l lift) (plN T l lift 1) (plN T l lift 2) out (fun b => pvS (odN T l) (plN T l) out W (2 - lift) (sB bb lift + e + b)) (leftN round a d) a (bb lift) f else W (sB bb lift + e)
theorem Now.left3 {T : St} {l lift round a d f o : Nat} {bb : Nat → Nat} (h : Now T l lift round a d f o bb) (hl : lift < 3) : (a ≠ 0 → f + leftN round a d ≤ 3) ∧ leftN round a d ≤ 3 := by
  obtain ⟨h1, h2, h3, h4, h5, h6, h7, h8, h9, h10, h11, h12, h13, h14, h15, h16, h17⟩ := h
  unfold leftN
  refine ⟨fun ha => ?_, by split <;> omega⟩
  obtain ⟨k1, k2, _⟩ := h17 hl ha
  rw [if_neg ha]; omega
/-- valueFrom of the plans: the numbers of the lifter stand in now, the sum moved by e -/
theorem from8 {k l lift round a d f o e out : Nat} {bb : Nat → Nat} {S T : St} {W : Nat → Nat} (hl : l < k) (hN : Now T l lift round a d f o bb) (hI : IV k l T W out S) (he : e ≤ 121)
    (n50 : S.1 50 = nI o) (n51 : S.1 51 = nI lift) (n52 : o = 0 → S.1 52 = nI (sB bb lift + e)) (n53 : S.1 53 = nI (if lift < 3 then bb lift else 0)) (n54 : S.1 54 = nI f) (n55 : S.1 55 = nI a) (n57 : S.1 57 = nI (leftN round a d)) :
    ∃ S', m_X6_valueFrom S = some (nI (pvN T l lift round a d f o bb out W e), S') ∧ Fr48 S S' ∧ IV k l T W out S' := by
  have hk := hI.vr.1
  have hleft := hN.left3
  obtain ⟨h1, h2, h3, h4, h5, h6, h7, h8, h9, h10, h11, h12, h13, h14, h15, h16, h17⟩ := id hN
  have hsb := sB_le (fun t ht => (h13 t ht).2) lift h1
  unfold m_X6_valueFrom pvN
  rw [hI.who, onw_some (by omega), hI.goal, onw_some (by omega), n50, if0N (by omega)]
  by_cases co : o = 0
  · rw [if_pos co, if_neg (show ¬ o = 1 by omega), n51, lit32 3, ifltN (by omega) (by omega)]
    by_cases cl : lift < 3
    · rw [if_pos cl, if_pos cl, n52 co, n53, n54, n55, n57, if_pos cl]
      by_cases ca : a = 0
      · -- nothing is asked: no try is left
        have hl0 : leftN round a d = 0 := by unfold leftN; rw [if_pos ca]
        obtain ⟨S', e1, e2, e3⟩ := val8 (out := out) (W := W) (T := T) hl 20 S lift (sB bb lift + e) a (bb lift) 0 0 hI (by omega) (by omega) (h13 lift cl).2 (by omega) (by omega) (by omega)
        have : m_X6_valueOfTry 20 S (nI lift) (nI (sB bb lift + e)) (nI a) (nI (bb lift)) (nI f) (nI 0) = m_X6_valueOfTry 20 S (nI lift) (nI (sB bb lift + e)) (nI a) (nI (bb lift)) (nI 0) (nI 0) := by
          unfold m_X6_valueOfTry
          rw [if_pos (show nI 0 ≤ (0 : Int32) by decide), if_pos (show nI 0 ≤ (0 : Int32) by decide)]
        rw [hl0, this, e1]
        simp only [Option.bind_some]
        refine ⟨S', ?_, e2, e3⟩
        rw [pvL_stop (Or.inl rfl), pvL_stop (Or.inl rfl)]
      · obtain ⟨q1, q2⟩ := hleft cl
        obtain ⟨S', e1, e2, e3⟩ := val8 (out := out) (W := W) (T := T) hl 20 S lift (sB bb lift + e) a (bb lift) f (leftN round a d) hI (by omega) (by omega) (h13 lift cl).2 (q1 ca) (by omega) (by omega)
        rw [e1]
        exact ⟨S', rfl, e2, e3⟩
    · have hl3 : lift = 3 := by omega
      subst hl3
      rw [if_neg cl, if_neg cl, n52 co]
      obtain ⟨S', e1, e2, e3⟩ := start8 hl (vt := m_X6_valueOfTry 20) (t := 3) (by omega) (fun q => absurd q (by omega)) S (sB bb 3 + e) hI (by omega)
      rw [show m_X6_startOf (m_X6_valueOfTry 20) S (nI 3) (nI (sB bb 3 + e)) = _ from e1]
      exact ⟨S', rfl, e2, e3⟩
  · rw [if_neg co, if_pos (show o = 1 by omega), onw_some (by omega), hI.out60]
    exact ⟨S, rfl, Fr48.rfl S, hI⟩
theorem prep_L {k l out : Nat} {T : St} {W : Nat → Nat} : ∀ d t n S, t + d = 3 → d + 1 ≤ n → (∀ u x, u < t → S.2.1 (48 + u) x = -1) → ∃ S', m_X6_prepare_L18 n S (nI t) = some S' ∧ Fr48 S S' ∧ (∀ u x, u < 3 → S'.2.1 (48 + u) x = -1) := by
  intro d
  induction d with
  | zero =>
    intro t n S ht hn h
    obtain ⟨m, rfl⟩ : ∃ m, n = m + 1 := ⟨n - 1, by omega⟩
    refine ⟨S, ?_, Fr48.rfl S, fun u x hu => h u x (by omega)⟩
    unfold m_X6_prepare_L18
    rw [lit32 3, if_pos (by rw [leN (by omega) (by omega)]; omega)]
  | succ d ih =>
    intro t n S ht hn h
    obtain ⟨m, rfl⟩ : ∃ m, n = m + 1 := ⟨n - 1, by omega⟩
    obtain ⟨S', e1, e2, e3⟩ := ih (t + 1) m (sF S (48 + t) (fun _ => (-1))) (by omega) (by omega) (fun u x hu => by
      rw [sF_21]
      by_cases c : u = t
      · rw [if_pos (by omega)]
      · rw [if_neg (by omega)]; exact h u x (by omega))
    have hF : Fr48 S (sF S (48 + t) (fun _ => (-1))) := ⟨rfl, rfl, fun a ha => by rw [sF_21, if_neg (by omega)]⟩
    refine ⟨S', ?_, hF.trans e2, e3⟩
    unfold m_X6_prepare_L18
    simp only [nmE]
    rw [lit32 3, if_neg (by rw [leN (by omega) (by omega)]; omega), ckN (by omega) (by omega), clN (by omega), s1]
    exact e1
/-- the plans of lifter l are made ready -/
theorem prepare8 {k l n out : Nat} {S T : St} {W : Nat → Nat} (hv : VR 30 25 k S T) (hl : l < k) (hn : 4 ≤ n) (h60 : S.1 60 = nI out) (hW : ∀ x, x < 242 → S.2.1 45 x = nI (W x)) (ho : out ≤ 1000000) (hWl : ∀ x, x < 242 → W x ≤ 1000000) :
    ∃ S', m_X6_prepare n S l (S.1 31) = some S' ∧ IV k l T W out S' ∧ (∀ i, i ≠ 61 → S'.1 i = S.1 i) ∧ (∀ a, (a < 48 ∨ 50 < a) → S'.2.1 a = S.2.1 a) ∧ S'.2.2.1 = S.2.2.1 ∧ (∀ j, j ≠ 0 → j ≠ 1 → S'.2.2.2 j = S.2.2.2 j) ∧ S'.2.2.2 0 = some l := by
  obtain ⟨S', e1, e2, e3⟩ := prep_L (k := k) (l := l) (out := out) (T := T) (W := W) 3 0 n (sR (sI (sR S 0 (some l)) 61 (S.1 31)) 1 (some 0)) (by omega) (by omega) (fun u x hu => absurd hu (by omega))
  have hi : ∀ i, i ≠ 61 → S'.1 i = S.1 i := fun i q => by rw [e2.1]; exact sI_ne q
  have hr : ∀ a, (a < 48 ∨ 50 < a) → S'.2.1 a = S.2.1 a := fun a ha => by rw [e2.2.2 a ha]; rfl
  refine ⟨S', ?_, ⟨?_, ?_, ?_, ?_, ?_, ?_, ho, hWl, ?_⟩, hi, hr, by rw [e2.2.1]; rfl, fun j h0 h1 => ?_, by rw [e2.2.1]; rfl⟩
  · unfold m_X6_prepare
    simp only [nmE]
    rw [show m_X6_prepare_L18 n (sR (sI (sR S 0 (some l)) 61 (S.1 31)) 1 (some 0)) 0 = _ from e1]
    rfl
  · exact hv.congr ⟨fun i q1 q2 => hi i (by omega), fun a ha => hr a (by omega)⟩ (EqT.rfl T)
  · rw [e2.2.1]; rfl
  · rw [e2.2.1]; rfl
  · rw [e2.1]; exact hv.tire
  · rw [hi 60 (by omega)]; exact h60
  · intro x hx; rw [hr 45 (by omega)]; exact hW x hx
  · intro t s ht _; exact Or.inl (e3 t s ht)
  · rw [e2.2.1]
    show (sR (sI (sR S 0 (some l)) 61 (S.1 31)) 1 (some 0)).2.2.2 j = _
    rw [sR_222, if_neg h1]
    show (sR S 0 (some l)).2.2.2 j = _
    rw [sR_222, if_neg h0]
/-- what stays of the class in a reckoning by plans -/
def FrV (S S' : St) : Prop := (∀ i, i < 50 → S'.1 i = S.1 i) ∧ (∀ i, (i = 60 ∨ 61 < i) → S'.1 i = S.1 i) ∧ (∀ a, (a < 48 ∨ 50 < a) → S'.2.1 a = S.2.1 a) ∧ S'.2.2.1 = S.2.2.1 ∧ (∀ j, j ≠ 0 → j ≠ 1 → S'.2.2.2 j = S.2.2.2 j) ∧ ∃ l, l < 7 ∧ S'.2.2.2 0 = some l
theorem byPlan8 {k l n out lift round a d f o : Nat} {bb : Nat → Nat} {S T : St} {W : Nat → Nat} (hv : VR 30 25 k S T) (hl : l < k) (hN : Now T l lift round a d f o bb) (hn : 4 ≤ n) (h60 : S.1 60 = nI out) (hW : ∀ x, x < 242 → S.2.1 45 x = nI (W x)) (ho : out ≤ 1000000) (hWl : ∀ x, x < 242 → W x ≤ 1000000) :
    ∃ S', m_X8_byPlan n S (nI l) = some (nI (pvN T l lift round a d f o bb out W 0), S') ∧ FrV S S' := by
  have hk := hv.1
  obtain ⟨S1, a1, a2, a3, a4, a5, a6, a7⟩ := prepare8 (n := n) hv hl hn h60 hW ho hWl
  obtain ⟨S2, b1, b2, b3, b4, b5, b6, b7, b8, b9, b10, b11⟩ := look8 a2.vr hl hN
  have hI2 : IV k l T W out S2 := by
    refine ⟨a2.vr.congr ⟨fun i q1 q2 => b2 i (by omega), fun a ha => by rw [b3]⟩ (EqT.rfl T), by rw [b3]; exact a2.who, by rw [b3]; exact a2.goal, by rw [b2 61 (by omega)]; exact a2.tire, by rw [b2 60 (by omega)]; exact a2.out60, fun x hx => by rw [b3]; exact a2.worth x hx, ho, hWl, fun t s ht hs => by rw [b3]; exact a2.memo t s ht hs⟩
  obtain ⟨S3, c1, c2, c3⟩ := from8 (e := 0) hl hN hI2 (by omega) b4 b5 (fun q => by rw [b6, if_neg (by omega), Nat.add_zero]) b7 b8 b9 b11
  refine ⟨S3, ?_, fun i hi => ?_, fun i hi => ?_, fun a ha => ?_, ?_, fun j h0 h1 => ?_, l, by omega, ?_⟩
  · unfold m_X8_byPlan
    rw [ckN (by omega) (by omega), clN (by omega), a1]
    simp only [Option.bind_some]
    rw [b1]
    simp only [Option.bind_some]
    rw [c1]
    rfl
  · rw [c2.1, b2 i (by omega), a3 i (by omega)]
  · rw [c2.1, b2 i (by omega), a3 i (by omega)]
  · rw [c2.2.2 a ha, b3, a4 a ha]
  · rw [c2.2.1, b3, a5]
  · rw [c2.2.1, b3, a6 j h0 h1]
  · rw [c2.2.1, b3, a7]
/-! the reference -/
theorem sumAhead_L {T : St} {l lift : Nat} {bb : Nat → Nat} (hl : l < 6) (hlift : lift ≤ 3) (h0 : T.2.1 11 0 = nI lift) (hb : ∀ t, t < 3 → mt T l (7 + t) = nI (bb t) ∧ bb t ≤ 40) : ∀ d t n, t + d = lift → d + 1 ≤ n → m_X9_sumAhead_L4 n T (nI l) (nI (sB bb t)) (nI t) = some (nI (sB bb lift)) := by
  intro d
  induction d with
  | zero =>
    intro t n ht hn
    obtain ⟨m, rfl⟩ : ∃ m, n = m + 1 := ⟨n - 1, by omega⟩
    unfold m_X9_sumAhead_L4
    rw [show ∀ x : Option Int32, ck 0 63 x = x from fun x => rfl, show (0 : Int32).toNatClampNeg = 0 from rfl, h0, if_pos (by rw [leN (by omega) (by omega)]; omega), show t = lift by omega]
  | succ d ih =>
    intro t n ht hn
    obtain ⟨m, rfl⟩ : ∃ m, n = m + 1 := ⟨n - 1, by omega⟩
    unfold m_X9_sumAhead_L4
    rw [show ∀ x : Option Int32, ck 0 63 x = x from fun x => rfl, show (0 : Int32).toNatClampNeg = 0 from rfl, h0, if_neg (by rw [leN (by omega) (by omega)]; omega), show (7 : Int32) + nI t = nI (7 + t) by rw [lit32 7, nI_add], of_eq hl (by omega), (hb t (by omega)).1]
    simp only [Option.bind_some]
    rw [nI_add, s1]
    exact ih (t + 1) m (by omega) (by omega)
theorem planNow9 {ib ab n k l lift round a d f o : Nat} {bb : Nat → Nat} {S T : St} {W : Nat → Nat} (hv : VR ib ab k S T) (hl : l < k) (hN : Now T l lift round a d f o bb) (hn : 8 ≤ n) (hW : ∀ x, x ≤ 120 → T.2.1 28 x = nI (W x)) (hWle : ∀ x, x ≤ 120 → W x ≤ 1000000) :
    m_X9_planNow n T (nI l) = some (nI (pvN T l lift round a d f o bb (W 0) W 0)) := by
  have hk := hv.1
  have hleft := hN.left3
  have hsm := hN.smE
  obtain ⟨h1, h2, h3, h4, h5, h6, h7, h8, h9, h10, h11, h12, h13, h14, h15, h16, h17⟩ := id hN
  have hsb := sB_le (fun t ht => (h13 t ht).2) lift h1
  unfold m_X9_planNow pvN
  rw [isOut_eq (by omega), h11, isOver_eq, h3, sum9 (by omega), hsm]
  simp only [Option.bind_some]
  have hz : (if nI o = 1 then (1 : Int32) else 0) = nI o := by
    rcases (by omega : o = 0 ∨ o = 1) with q | q <;> subst q <;> rfl
  rw [hz, if0N (by omega)]
  by_cases co : o = 0
  · rw [if_pos co, if_neg (show ¬ o = 1 by omega), if_neg (show ¬ o = 1 by omega), lit32 3, ifeqN (by omega) (by omega)]
    by_cases cl : lift < 3
    · rw [if_neg (show ¬ lift = 3 by omega), if_pos rfl, if_pos cl]
      have hrd : m_X9_roundOf T (nI l) = some (nI (round + d)) := by
        unfold m_X9_roundOf
        rw [show ∀ x : Option Int32, ck 1 63 x = x from fun x => rfl, of1 (by omega), h7, show (1 : Int32).toNatClampNeg = 1 from rfl, h4]
        simp only [Option.bind_some]
        rw [nI_add]
      have hsa : m_X9_sumAhead n T (nI l) = some (nI (sB bb lift)) := by
        unfold m_X9_sumAhead
        rw [show m_X9_sumAhead_L4 n T (nI l) 0 0 = _ from sumAhead_L (by omega) h1 h3 h13 lift 0 n (by omega) (by omega)]
        rfl
      rw [show ∀ x : Option Int32, ck 0 63 x = x from fun x => rfl, hrd, of0 (by omega), of4 (by omega), show (0 : Int32).toNatClampNeg = 0 from rfl, h3, show (7 : Int32) + nI lift = nI (7 + lift) by rw [lit32 7, nI_add], of_eq (by omega) (by omega), h5, h9, (h13 lift cl).1, hsa]
      simp only [Option.bind_some]
      by_cases ca : a = 0
      · have e0 : m_X9_planned n 16 T (nI l) (nI lift) (nI (round + d)) (nI a) (nI f) (nI (bb lift)) (nI (sB bb lift)) = m_X9_planned n 16 T (nI l) (nI lift) (nI 0) (nI a) (nI 0) (nI (bb lift)) (nI (sB bb lift)) := by
          unfold m_X9_planned
          rw [if_pos (show nI a = 0 by rw [ca]; rfl), if_pos (show nI a = 0 by rw [ca]; rfl)]
        rw [e0, plan9_val hv hl (by omega) hW hWle 16 lift (sB bb lift) a (bb lift) 0 3 0 (by omega) (by omega) (by omega) (h13 lift cl).2 (by omega) h6 (by omega)]
        simp only [Option.bind_some]
        rw [pvL_stop (by omega), pvL_stop (by omega), Nat.add_zero]
      · obtain ⟨q1, q2⟩ := hleft cl
        have k1 := (h17 cl ca).1
        have hlf : leftN round a d = 3 - (round + d) := by unfold leftN; rw [if_neg ca]
        rw [plan9_val hv hl (by omega) hW hWle 16 lift (sB bb lift) a (bb lift) f (leftN round a d) (round + d) (by omega) (by omega) (by omega) (h13 lift cl).2 (q1 ca) h6 (by omega)]
        simp only [Option.bind_some, Nat.add_zero]
    · have hl3 : lift = 3 := by omega
      subst hl3
      rw [if_pos rfl, if_neg (show ¬ (1 : Int32) = 0 by decide), if_neg cl, ckN (by omega) (by omega), clN (by omega), hW _ (by omega)]
      rfl
  · rw [if_neg co, if_pos (show o = 1 by omega), if_pos (show o = 1 by omega), ckN (by omega) (by omega), clN (by omega), hW 0 (by omega)]
theorem pvN_congr {T : St} {l lift round a d f o : Nat} {bb : Nat → Nat} {out e : Nat} {W W' : Nat → Nat} {B : Nat} (hl : lift ≤ 3) (hb : ∀ t, t < 3 → bb t ≤ 40) (hW : ∀ x, x ≤ B → W x = W' x) (hB : 120 + e ≤ B) : pvN T l lift round a d f o bb out W e = pvN T l lift round a d f o bb out W' e := by
  have hsb := sB_le hb lift hl
  unfold pvN
  by_cases c1 : o = 1
  · rw [if_pos c1, if_pos c1]
  · rw [if_neg c1, if_neg c1]
    by_cases c2 : lift < 3
    · rw [if_pos c2, if_pos c2]
      exact pvL_congr (fun b hb => pvS_congr (B := B) hW (2 - lift) _ (by omega)) _ _ _ _ (hb lift c2)
    · rw [if_neg c2, if_neg c2]; exact hW _ (by omega)
theorem pvN_le {T : St} {l lift round a d f o k : Nat} {bb : Nat → Nat} {out e M : Nat} {W : Nat → Nat} {ib ab : Nat} {S : St} (hv : VR ib ab k S T) (hl : l < k) (hN : Now T l lift round a d f o bb) (ho : out ≤ M) (hW : ∀ x, x ≤ 120 + e → W x ≤ M) : pvN T l lift round a d f o bb out W e ≤ M := by
  have hleft := hN.left3
  obtain ⟨h1, h2, h3, h4, h5, h6, h7, h8, h9, h10, h11, h12, h13, h14, h15, h16, h17⟩ := id hN
  have hsb := sB_le (fun t ht => (h13 t ht).2) lift h1
  have hDD : ∀ t a f, t < 3 → a ≤ 40 → f ≤ 3 → odN T l t a f ≤ 1000 := fun t a f ht ha hf => (od_nat hv hl ht ha hf).2
  unfold pvN
  by_cases c1 : o = 1
  · rw [if_pos c1]; exact ho
  · rw [if_neg c1]
    by_cases c2 : lift < 3
    · rw [if_pos c2]
      have hbl : ∀ b, b ≤ 40 → pvS (odN T l) (plN T l) out W (2 - lift) (sB bb lift + e + b) ≤ M := fun b hb => pvS_le (B := 120 + e) hDD ho hW (2 - lift) _ (by omega) (by omega)
      by_cases ca : a = 0
      · rw [pvL_stop (by omega)]
        split
        · exact ho
        · exact hbl _ (h13 lift c2).2
      · exact pvL_le (fun a f => hDD lift a f c2) ho hbl _ _ _ _ (h13 lift c2).2 ((hleft c2).1 ca)
    · rw [if_neg c2]; exact hW _ (by omega)
/-! the goals: mass, reach -/
theorem beMass_L : ∀ d x n S, x + d = 242 → d + 1 ≤ n → (∀ y, y < x → S.2.1 45 y = nI (1000 * y)) → ∃ S', m_X0_beMass_L2 n S (nI x) = some S' ∧ S'.1 = S.1 ∧ S'.2.2 = S.2.2 ∧ (∀ a, a ≠ 45 → S'.2.1 a = S.2.1 a) ∧ (∀ y, y < 242 → S'.2.1 45 y = nI (1000 * y)) := by
  intro d
  induction d with
  | zero =>
    intro x n S hx hn h
    obtain ⟨m, rfl⟩ : ∃ m, n = m + 1 := ⟨n - 1, by omega⟩
    refine ⟨S, ?_, rfl, rfl, fun _ _ => rfl, fun y hy => h y (by omega)⟩
    unfold m_X0_beMass_L2
    rw [lit32 242, if_pos (by rw [leN (by omega) (by omega)]; omega)]
  | succ d ih =>
    intro x n S hx hn h
    obtain ⟨m, rfl⟩ : ∃ m, n = m + 1 := ⟨n - 1, by omega⟩
    obtain ⟨S', e1, e2, e3, e4, e5⟩ := ih (x + 1) m (sA S 45 x (nI (1000 * x))) (by omega) (by omega) (fun y hy => by
      by_cases c : y = x
      · subst c; exact sA_eq
      · rw [sA_ne c]; exact h y (by omega))
    refine ⟨S', ?_, e2, e3, fun a ha => (e4 a ha).trans (sA_row ha), e5⟩
    unfold m_X0_beMass_L2
    simp only [nmE]
    rw [lit32 242, if_neg (by rw [leN (by omega) (by omega)]; omega), ckN (by omega) (by omega), clN (by omega), lit32 1000, pk_mul, s1]
    exact e1
theorem aimsMass_L : ∀ d x n T, x + d = 121 → d + 1 ≤ n → (∀ y, y < x → T.2.1 28 y = nI (1000 * y)) → ∃ T', m_X9_aimsMass_L2 n T (nI x) = some T' ∧ T'.1 = T.1 ∧ T'.2.2 = T.2.2 ∧ (∀ a, a ≠ 28 → T'.2.1 a = T.2.1 a) ∧ (∀ y, y ≤ 120 → T'.2.1 28 y = nI (1000 * y)) := by
  intro d
  induction d with
  | zero =>
    intro x n T hx hn h
    obtain ⟨m, rfl⟩ : ∃ m, n = m + 1 := ⟨n - 1, by omega⟩
    refine ⟨T, ?_, rfl, rfl, fun _ _ => rfl, fun y hy => h y (by omega)⟩
    unfold m_X9_aimsMass_L2
    rw [lit32 121, if_pos (by rw [leN (by omega) (by omega)]; omega)]
  | succ d ih =>
    intro x n T hx hn h
    obtain ⟨m, rfl⟩ : ∃ m, n = m + 1 := ⟨n - 1, by omega⟩
    obtain ⟨T', e1, e2, e3, e4, e5⟩ := ih (x + 1) m (sA T 28 x (nI (1000 * x))) (by omega) (by omega) (fun y hy => by
      by_cases c : y = x
      · subst c; exact sA_eq
      · rw [sA_ne c]; exact h y (by omega))
    refine ⟨T', ?_, e2, e3, fun a ha => (e4 a ha).trans (sA_row ha), e5⟩
    unfold m_X9_aimsMass_L2
    simp only [nmE]
    rw [lit32 121, if_neg (by rw [leN (by omega) (by omega)]; omega), ckN (by omega) (by omega), clN (by omega), lit32 1000, pk_mul, s1]
    exact e1
/-- who reaches w -/
def Wr (w x : Nat) : Nat := if x < w then 0 else 1000000
theorem beReach_L {w : Nat} (hw : w ≤ 121) : ∀ d x n S, x + d = 242 → d + 1 ≤ n → (∀ y, y < x → S.2.1 45 y = nI (Wr w y)) → ∃ S', m_X0_beReach_L2 n S (nI w) (nI x) = some S' ∧ S'.1 = S.1 ∧ S'.2.2 = S.2.2 ∧ (∀ a, a ≠ 45 → S'.2.1 a = S.2.1 a) ∧ (∀ y, y < 242 → S'.2.1 45 y = nI (Wr w y)) := by
  intro d
  induction d with
  | zero =>
    intro x n S hx hn h
    obtain ⟨m, rfl⟩ : ∃ m, n = m + 1 := ⟨n - 1, by omega⟩
    refine ⟨S, ?_, rfl, rfl, fun _ _ => rfl, fun y hy => h y (by omega)⟩
    unfold m_X0_beReach_L2
    rw [lit32 242, if_pos (by rw [leN (by omega) (by omega)]; omega)]
  | succ d ih =>
    intro x n S hx hn h
    obtain ⟨m, rfl⟩ : ∃ m, n = m + 1 := ⟨n - 1, by omega⟩
    obtain ⟨S', e1, e2, e3, e4, e5⟩ := ih (x + 1) m (sA S 45 x (nI (Wr w x))) (by omega) (by omega) (fun y hy => by
      by_cases c : y = x
      · subst c; exact sA_eq
      · rw [sA_ne c]; exact h y (by omega))
    refine ⟨S', ?_, e2, e3, fun a ha => (e4 a ha).trans (sA_row ha), e5⟩
    unfold m_X0_beReach_L2
    simp only [nmE]
    rw [lit32 242, if_neg (by rw [leN (by omega) (by omega)]; omega), ifltN (by omega) (by omega), ckN (by omega) (by omega), ckN (by omega) (by omega), clN (by omega), s1]
    unfold Wr at e1
    by_cases c : x < w
    · rw [if_pos c] at e1 ⊢; exact e1
    · rw [if_neg c] at e1 ⊢; exact e1
theorem aimsReach_L {w : Nat} (hw : w ≤ 121) : ∀ d x n T, x + d = 121 → d + 1 ≤ n → (∀ y, y < x → T.2.1 28 y = nI (Wr w y)) → ∃ T', m_X9_aimsReach_L2 n T (nI w) (nI x) = some T' ∧ T'.1 = T.1 ∧ T'.2.2 = T.2.2 ∧ (∀ a, a ≠ 28 → T'.2.1 a = T.2.1 a) ∧ (∀ y, y ≤ 120 → T'.2.1 28 y = nI (Wr w y)) := by
  intro d
  induction d with
  | zero =>
    intro x n T hx hn h
    obtain ⟨m, rfl⟩ : ∃ m, n = m + 1 := ⟨n - 1, by omega⟩
    refine ⟨T, ?_, rfl, rfl, fun _ _ => rfl, fun y hy => h y (by omega)⟩
    unfold m_X9_aimsReach_L2
    rw [lit32 121, if_pos (by rw [leN (by omega) (by omega)]; omega)]
  | succ d ih =>
    intro x n T hx hn h
    obtain ⟨m, rfl⟩ : ∃ m, n = m + 1 := ⟨n - 1, by omega⟩
    obtain ⟨T', e1, e2, e3, e4, e5⟩ := ih (x + 1) m (sA T 28 x (nI (Wr w x))) (by omega) (by omega) (fun y hy => by
      by_cases c : y = x
      · subst c; exact sA_eq
      · rw [sA_ne c]; exact h y (by omega))
    refine ⟨T', ?_, e2, e3, fun a ha => (e4 a ha).trans (sA_row ha), e5⟩
    unfold m_X9_aimsReach_L2
    simp only [nmE]
    rw [lit32 121, if_neg (by rw [leN (by omega) (by omega)]; omega), ifltN (by omega) (by omega), ckN (by omega) (by omega), ckN (by omega) (by omega), clN (by omega), s1]
    unfold Wr at e1
    by_cases c : x < w
    · rw [if_pos c] at e1 ⊢; exact e1
    · rw [if_neg c] at e1 ⊢; exact e1
/-- a goal is set: only the worth and what it is to be out -/
def FrG (S S' : St) : Prop := (∀ i, i ≠ 60 → S'.1 i = S.1 i) ∧ (∀ a, a ≠ 45 → S'.2.1 a = S.2.1 a) ∧ S'.2.2 = S.2.2
theorem FrG.eqs {S S' : St} (h : FrG S S') : EqS S S' := ⟨fun i _ _ => h.1 i (by omega), fun a ha => h.2.1 a (by omega)⟩
theorem beMass8 {n : Nat} {S : St} (hn : 243 ≤ n) : ∃ S', m_X0_beMass n S = some S' ∧ FrG S S' ∧ S'.1 60 = nI 0 ∧ ∀ x, x < 242 → S'.2.1 45 x = nI (1000 * x) := by
  obtain ⟨S', e1, e2, e3, e4, e5⟩ := beMass_L 242 0 n S (by omega) (by omega) (fun y hy => absurd hy (by omega))
  refine ⟨sI S' 60 0, ?_, ⟨fun i hi => by rw [sI_ne hi, e2], e4, e3⟩, rfl, e5⟩
  unfold m_X0_beMass
  simp only [nmE]
  rw [show m_X0_beMass_L2 n S 0 = _ from e1]
  rfl
theorem beReach8 {n w : Nat} {S : St} (hw : w ≤ 121) (hn : 243 ≤ n) : ∃ S', m_X0_beReach n S (nI w) = some S' ∧ FrG S S' ∧ S'.1 60 = nI (Wr w 0) ∧ ∀ x, x < 242 → S'.2.1 45 x = nI (Wr w x) := by
  obtain ⟨S', e1, e2, e3, e4, e5⟩ := beReach_L hw 242 0 n S (by omega) (by omega) (fun y hy => absurd hy (by omega))
  refine ⟨sI S' 60 (S'.2.1 45 0), ?_, ⟨fun i hi => by rw [sI_ne hi, e2], e4, e3⟩, by rw [sI_eq]; exact e5 0 (by omega), e5⟩
  unfold m_X0_beReach
  simp only [nmE]
  rw [show m_X0_beReach_L2 n S (nI w) 0 = _ from e1]
  rfl
theorem aimsReach9 {n w : Nat} {T : St} (hw : w ≤ 121) (hn : 122 ≤ n) : ∃ T', m_X9_aimsReach n T (nI w) = some T' ∧ T'.1 = T.1 ∧ T'.2.2 = T.2.2 ∧ (∀ a, a ≠ 28 → T'.2.1 a = T.2.1 a) ∧ (∀ y, y ≤ 120 → T'.2.1 28 y = nI (Wr w y)) := by
  obtain ⟨T', e1, e2, e3, e4, e5⟩ := aimsReach_L hw 121 0 n T (by omega) (by omega) (fun y hy => absurd hy (by omega))
  refine ⟨T', ?_, e2, e3, e4, e5⟩
  unfold m_X9_aimsReach
  rw [show m_X9_aimsReach_L2 n T (nI w) 0 = _ from e1]
  rfl
theorem Wr_le (w x : Nat) : Wr w x ≤ 1000000 := by unfold Wr; split <;> omega
theorem Now.congr {T T' : St} {l lift round a d f o : Nat} {bb : Nat → Nat} (h : Now T l lift round a d f o bb) (e : T'.2.1 11 = T.2.1 11) : Now T' l lift round a d f o bb := by
  unfold Now mt at *
  rw [e]
  exact h
/-- the relation after a reckoning by plans -/
theorem RelB.plan {S S1 S2 T T' : St} {oF oP : Option St} (h : RelB S oF oP T) (g : FrG S S1) (v : FrV S1 S2) (t1 : T'.1 = T.1) (t2 : T'.2.2 = T.2.2) (t3 : ∀ a, (a < 28 ∨ 30 < a) → T'.2.1 a = T.2.1 a) : RelB S2 oF oP T' := by
  obtain ⟨hf, ⟨t, ht, r1, r2, r3⟩, k, hc⟩ := h
  refine ⟨⟨?_, ?_, Or.inr v.2.2.2.2.2⟩, ⟨t, ht, ?_, ?_, fun j hj => ?_⟩, k, hc.congr ⟨fun i q1 q2 => (v.1 i (by omega)).trans (g.1 i (by omega)), fun a ha => (v.2.2.1 a (by omega)).trans (g.2.1 a (by omega))⟩ ⟨⟨by rw [t1], by rw [t1], by rw [t1], by rw [t1], by rw [t1]⟩, fun a q1 q2 => t3 a (by omega), t3 11 (by omega), t3 15 (by omega), t3 17 (by omega)⟩⟩
  · rw [v.2.2.2.2.1 2 (by omega) (by omega), g.2.2]; exact hf.1
  · rw [v.2.2.2.2.1 3 (by omega) (by omega), g.2.2]; exact hf.2.1
  · rw [v.1 0 (by omega), g.1 0 (by omega)]; exact r1
  · rw [t1]; exact r2
  · rw [v.2.2.2.1, g.2.2, t2]; exact r3 j hj
/-- mass -/
theorem hb_17 (n : Nat) (hn : 300 ≤ n) : HB_17 n RelB := by
  intro S oF oP T a1 hR
  obtain ⟨hf, hro, k, hc⟩ := id hR
  have hv := hc.vr.congrT (EqT.thr T 0)
  have hk := hv.1
  unfold m_X8_mass m_X9_mass
  simp only [nmE]
  rcases isL hv a1 with ⟨l, hl, rfl, e1, e2⟩ | ⟨e1, e2⟩
  · rw [e1, e2]
    simp only [Option.bind_some, b10, if_false]
    obtain ⟨lift, round, a, d, f, o, bb, hN⟩ := now_of hv hl
    obtain ⟨S1, p1, p2, p3, p4⟩ := beMass8 (n := n) (S := S) (by omega)
    obtain ⟨T1, q1, q2, q3, q4, q5⟩ := aimsMass_L 121 0 n (sI T 0 0) (by omega) (by omega) (fun y hy => absurd hy (by omega))
    have hq : m_X9_aimsMass n (sI T 0 0) = some T1 := by
      unfold m_X9_aimsMass
      rw [show m_X9_aimsMass_L2 n (sI T 0 0) 0 = _ from q1]; rfl
    have hET : EqT (sI T 0 0) T1 := ⟨⟨by rw [q2], by rw [q2], by rw [q2], by rw [q2], by rw [q2]⟩, fun a z1 z2 => q4 a (by omega), q4 11 (by omega), q4 15 (by omega), q4 17 (by omega)⟩
    have hv1 : VR 30 25 k S1 T1 := hv.congr p2.eqs hET
    have hN1 := hN.congr (T' := T1) (q4 11 (by omega))
    obtain ⟨S2, c1, c2⟩ := byPlan8 (n := n) (out := 0) (W := fun x => 1000 * x) hv1 hl hN1 (by omega) p3 p4 (by omega) (fun x hx => by omega)
    have r := planNow9 (n := n) (W := fun x => 1000 * x) hv1 hl hN1 (by omega) q5 (fun x hx => by omega)
    rw [p1, hq]
    simp only [Option.bind_some]
    rw [c1, r]
    exact ⟨_, _, _, rfl, rfl, (hR.thr 0).plan p2 c2 q2 q3 (fun a ha => q4 a (by omega))⟩
  · rw [e1, e2]
    exact ⟨-1, _, _, rfl, rfl, hR.thr 0⟩
theorem isW (S T : St) (a : Int32) : (∃ w, w ≤ 121 ∧ a = nI w ∧ m_X8_isAimed S a = some 1 ∧ m_X9_isTotal T a = some 1) ∨ (m_X8_isAimed S a = some 0 ∧ m_X9_isTotal T a = some 0) := by
  unfold m_X8_isAimed m_X9_isTotal
  rcases cases32 a 122 (by omega) with ⟨w, hw, rfl⟩ | hc
  · left
    refine ⟨w, by omega, rfl, ?_, ?_⟩
    · rw [if_neg (nI_pos (by omega)), lit32 121, if_neg (by rw [ltN (by omega) (by omega)]; omega)]
    · rw [in_yes (by rw [t64, tiN (by omega)]; show (0 : Int) ≤ w; omega) (by rw [t64, tiN (by omega)]; show (w : Int) ≤ 121; omega)]
      rfl
  · right
    refine ⟨?_, ?_⟩
    · by_cases c : a < 0
      · rw [if_pos c]
      · rw [if_neg c, if_pos]
        rw [lt32] at c ⊢
        have : ¬ a.toInt < 0 := c
        show (121 : Int) < a.toInt
        omega
    · rw [in_no (by rw [t64]; show a.toInt < 0 ∨ 121 < a.toInt; omega)]
      rfl
/-- the reference's chance -/
theorem chanceOf9 {ib ab n k l w lift round a d f o : Nat} {bb : Nat → Nat} {S T : St} (hv : VR ib ab k S T) (hl : l < k) (hN : Now T l lift round a d f o bb) (hw : w ≤ 121) (hn : 130 ≤ n) :
    ∃ T', m_X9_chanceOf n T (nI l) (nI w) = some (nI (pvN T l lift round a d f o bb (Wr w 0) (Wr w) 0), T') ∧ T'.1 = T.1 ∧ T'.2.2 = T.2.2 ∧ (∀ a, a ≠ 28 → T'.2.1 a = T.2.1 a) := by
  obtain ⟨T1, q1, q2, q3, q4, q5⟩ := aimsReach9 (n := n) (T := T) hw (by omega)
  have hET : EqT T T1 := ⟨⟨by rw [q2], by rw [q2], by rw [q2], by rw [q2], by rw [q2]⟩, fun a z1 z2 => q4 a (by omega), q4 11 (by omega), q4 15 (by omega), q4 17 (by omega)⟩
  have hN1 := hN.congr (T' := T1) (q4 11 (by omega))
  have r := planNow9 (n := n) (W := Wr w) (hv.congrT hET) hl hN1 (by omega) q5 (fun x _ => Wr_le w x)
  refine ⟨T1, ?_, q2, q3, q4⟩
  unfold m_X9_chanceOf
  rw [q1]
  simp only [Option.bind_some]
  rw [r]
  have hod : odN T1 l = odN T l := by
    funext t x f
    unfold odN od tabT
    rw [q4 6 (by omega), q4 7 (by omega), q4 8 (by omega), q2]
  have hpl : plN T1 l = plN T l := by
    funext t w
    unfold plN
    rw [q4 9 (by omega)]
  simp only [Option.bind_some]
  unfold pvN
  rw [hod, hpl]
/-- chance -/
theorem hb_18 (n : Nat) (hn : 300 ≤ n) : HB_18 n RelB := by
  intro S oF oP T a1 a2 hR
  obtain ⟨hf, hro, k, hc⟩ := id hR
  have hv := hc.vr.congrT (EqT.thr T 0)
  have hk := hv.1
  unfold m_X8_chance m_X9_chance
  simp only [nmE]
  rcases isL hv a1 with ⟨l, hl, rfl, e1, e2⟩ | ⟨e1, e2⟩
  · rw [e1, e2]
    simp only [Option.bind_some, b10, if_false]
    rcases isW S (sI T 0 0) a2 with ⟨w, hw, rfl, f1, f2⟩ | ⟨f1, f2⟩
    · rw [f1, f2]
      simp only [Option.bind_some, b10, if_false]
      obtain ⟨lift, round, a, d, f, o, bb, hN⟩ := now_of hv hl
      obtain ⟨S1, p1, p2, p3, p4⟩ := beReach8 (n := n) (S := S) hw (by omega)
      obtain ⟨T1, q1, q2, q3, q4⟩ := chanceOf9 (n := n) hv hl hN hw (by omega)
      obtain ⟨S2, c1, c2⟩ := byPlan8 (n := n) (out := Wr w 0) (W := Wr w) (hv.congr p2.eqs (EqT.rfl _)) hl hN (by omega) p3 p4 (Wr_le w 0) (fun x _ => Wr_le w x)
      rw [p1, q1]
      simp only [Option.bind_some]
      rw [c1]
      exact ⟨_, _, _, rfl, rfl, (hR.thr 0).plan p2 c2 q2 q3 (fun a ha => q4 a (by omega))⟩
    · rw [f1, f2]
      exact ⟨-1, _, _, rfl, rfl, hR.thr 0⟩
  · rw [e1, e2]
    exact ⟨-1, _, _, rfl, rfl, hR.thr 0⟩
