/-! ===== layer B: heavy, reach, against, gold ===== -/
def FrW (S S' : St) : Prop := (∀ i, (i < 50 ∨ 57 < i) → S'.1 i = S.1 i) ∧ S'.2 = S.2
theorem FrW.rfl (S : St) : FrW S S := ⟨fun _ _ => Eq.refl _, Eq.refl _⟩
theorem FrW.trans {S S' S2 : St} (h : FrW S S') (g : FrW S' S2) : FrW S S2 := ⟨fun i a => (g.1 i a).trans (h.1 i a), g.2.trans h.2⟩
theorem FrW.fd {S S' : St} (h : FrW S S') : FrD S S' := ⟨fun i hi => h.1 i (by omega), fun a _ _ _ => by rw [h.2], by rw [h.2], fun j _ _ => by rw [h.2], Or.inl (by rw [h.2])⟩
theorem find_stop {S : St} {o t s b f j L n : Nat} (h : NowS S o t s b f j L) (hs : o = 1 ∨ 3 ≤ t ∨ (1 ≤ j ∧ L ≤ 40)) (x1 : Int32) : m_X5_findTry_L2 (n + 1) S x1 = some S := by
  have hh := hasTry8 h
  obtain ⟨h1, h2, h3⟩ := h
  unfold m_X5_findTry_L2
  by_cases c : o = 0
  · obtain ⟨h4, h5, h6, h7, h8⟩ := h3 c
    rw [h1, if_pos (show nI o = 0 by rw [c]; rfl), h4, lit32 3, ifleN (by omega) (by omega)]
    by_cases ct : 3 ≤ t
    · rw [if_pos ct]; split <;> rfl
    · rw [if_neg ct, hh, if_pos (show o = 0 ∧ t < 3 ∧ 1 ≤ j ∧ L ≤ 40 by omega), Option.bind_some, if_neg (show ¬ (1 : Int32) = 0 by decide)]; split <;> rfl
  · rw [h1, if_neg (show ¬ nI o = 0 by rw [show (0 : Int32) = nI 0 from rfl, eqN (by omega) (by omega)]; exact c)]; split <;> rfl
/-- the next try is looked for -/
theorem find8 {S : St} {o t s b f j L n : Nat} (h : NowS S o t s b f j L) (hn : 4 ≤ n) :
    ∃ S' o' t' s' b' f' j' L', m_X5_findTry n S = some (nI (if o' = 0 ∧ t' < 3 then 1 else 0), S') ∧ FrW S S' ∧ NowS S' o' t' s' b' f' j' L' ∧ (o' = 1 ∨ 3 ≤ t' ∨ (1 ≤ j' ∧ L' ≤ 40)) ∧
      ((o = 1 ∨ 3 ≤ t ∨ (1 ≤ j ∧ L ≤ 40)) ∧ (o' = o ∧ t' = t ∧ s' = s ∧ b' = b ∧ f' = f ∧ j' = j ∧ L' = L) ∨ (¬ (o = 1 ∨ 3 ≤ t ∨ (1 ≤ j ∧ L ≤ 40)) ∧ b = 0 ∧ o' = 1) ∨ (¬ (o = 1 ∨ 3 ≤ t ∨ (1 ≤ j ∧ L ≤ 40)) ∧ b ≠ 0 ∧ o' = 0 ∧ t' = t + 1 ∧ s' = s + b ∧ b' = 0 ∧ f' = 0 ∧ j' = 3 ∧ L' = 1)) := by
  obtain ⟨m, rfl⟩ : ∃ m, n = m + 2 := ⟨n - 2, by omega⟩
  have hfin : ∀ (S' : St) o' t' s' b' f' j' L', NowS S' o' t' s' b' f' j' L' → (o' = 1 ∨ 3 ≤ t' ∨ (1 ≤ j' ∧ L' ≤ 40)) → m_X5_findTry_L2 (m + 2) S 0 = some S' → m_X5_findTry (m + 2) S = some (nI (if o' = 0 ∧ t' < 3 then 1 else 0), S') := fun S' o' t' s' b' f' j' L' hN hs e => by
    have ho := hN.2.1
    unfold m_X5_findTry
    rw [e, Option.bind_some, hasTry8 hN, Option.bind_some]
    by_cases c : o' = 0 ∧ t' < 3
    · rw [if_pos (show o' = 0 ∧ t' < 3 ∧ 1 ≤ j' ∧ L' ≤ 40 by omega), if_pos c]; rfl
    · rw [if_neg (show ¬ (o' = 0 ∧ t' < 3 ∧ 1 ≤ j' ∧ L' ≤ 40) from fun q => c ⟨q.1, q.2.1⟩), if_neg c]; rfl
  by_cases hs : o = 1 ∨ 3 ≤ t ∨ (1 ≤ j ∧ L ≤ 40)
  · exact ⟨S, o, t, s, b, f, j, L, hfin S o t s b f j L h hs (find_stop h hs 0), FrW.rfl S, h, hs, Or.inl ⟨hs, rfl, rfl, rfl, rfl, rfl, rfl, rfl⟩⟩
  · have hh := hasTry8 h
    obtain ⟨h1, h2, h3⟩ := id h
    have c : o = 0 := by omega
    obtain ⟨h4, h5, h6, h7, h8⟩ := h3 c
    obtain ⟨g1, g2, g3, g4, g5, g6, g7⟩ := h8 (by omega)
    have hstep : m_X5_findTry_L2 (m + 2) S 0 = if nI b = 0 then m_X5_findTry_L2 (m + 1) (sI S 50 1) (0 + 1) else m_X5_findTry_L2 (m + 1) (sI (sI (sI (sI (sI (sI S 52 (nI (s + b))) 51 (nI (t + 1))) 53 0) 54 0) 56 1) 57 3) (0 + 1) := by
      conv => lhs; unfold m_X5_findTry_L2
      rw [if_neg (show ¬ (3 : Int32) ≤ 0 by decide), h1, if_pos (show nI o = 0 by rw [c]; rfl), h4, if_neg (show ¬ (3 : Int32) ≤ nI t by rw [lit32 3, leN (by omega) (by omega)]; omega), hh, if_neg (by omega), Option.bind_some, if_pos rfl, g1]
      simp only [nmE]
      rw [h6, nI_add, show (sI S 52 (nI (s + b))).1 51 = nI t from h4, s1]
    by_cases cb : b = 0
    · have hN' : NowS (sI S 50 1) 1 t s b f j L := ⟨sI_eq, by omega, fun q => absurd q (by omega)⟩
      refine ⟨sI S 50 1, 1, t, s, b, f, j, L, hfin _ _ _ _ _ _ _ _ hN' (Or.inl rfl) ?_, ⟨fun i hi => sI_ne (by omega), rfl⟩, hN', Or.inl rfl, Or.inr (Or.inl ⟨hs, cb, rfl⟩)⟩
      rw [hstep, if_pos (show nI b = 0 by rw [cb]; rfl)]
      exact find_stop hN' (Or.inl rfl) _
    · have hi : ∀ i, i ≠ 52 → i ≠ 51 → i ≠ 53 → i ≠ 54 → i ≠ 56 → i ≠ 57 → (sI (sI (sI (sI (sI (sI S 52 (nI (s + b))) 51 (nI (t + 1))) 53 0) 54 0) 56 1) 57 3).1 i = S.1 i := fun i q1 q2 q3 q4 q5 q6 => by
        rw [sI_ne q6, sI_ne q5, sI_ne q4, sI_ne q3, sI_ne q2, sI_ne q1]
      have hN' : NowS (sI (sI (sI (sI (sI (sI S 52 (nI (s + b))) 51 (nI (t + 1))) 53 0) 54 0) 56 1) 57 3) 0 (t + 1) (s + b) 0 0 3 1 := by
        refine ⟨by rw [hi 50 (by omega) (by omega) (by omega) (by omega) (by omega) (by omega), h1, c], by omega, fun _ => ⟨rfl, by omega, rfl, by omega, fun _ => ⟨rfl, by omega, rfl, by omega, rfl, by omega, fun _ => ⟨rfl, by omega, by omega, by omega, Or.inl ⟨rfl, rfl, rfl⟩⟩⟩⟩⟩
      refine ⟨_, 0, t + 1, s + b, 0, 0, 3, 1, hfin _ _ _ _ _ _ _ _ hN' (by omega) ?_, ⟨fun i hi2 => hi i (by omega) (by omega) (by omega) (by omega) (by omega) (by omega), rfl⟩, hN', by omega, Or.inr (Or.inr ⟨hs, cb, rfl, rfl, rfl, rfl, rfl, rfl, rfl⟩)⟩
      rw [hstep, if_neg (show ¬ nI b = 0 by rw [show (0 : Int32) = nI 0 from rfl, eqN (by omega) (by omega)]; exact cb)]
      exact find_stop hN' (by omega) _
theorem Now.pc {T : St} {l lift round a d f o : Nat} {bb : Nat → Nat} (h : Now T l lift round a d f o bb) (hl : lift < 3) (ha : a ≠ 0) : PC (leftN round a d) f (bb lift) := by
  obtain ⟨h1, h2, h3, h4, h5, h6, h7, h8, h9, h10, h11, h12, h13, h14, h15, h16, h17⟩ := h
  obtain ⟨k1, k2, k3, k4, k5, k6, k7⟩ := h17 hl ha
  unfold PC leftN
  rw [if_neg ha]
  rcases (by omega : round + d = 0 ∨ round + d = 1 ∨ round + d = 2) with q | q | q
  · left
    have hf : f = 0 := by omega
    exact ⟨by omega, hf, k4 (by omega)⟩
  · right; left
    refine ⟨by omega, ?_⟩
    by_cases hf : f = 0
    · exact Or.inl ⟨hf, k7 (by omega)⟩
    · exact Or.inr ⟨by omega, k4 (by omega)⟩
  · right; right
    exact ⟨by omega, by omega, fun z => k4 (by omega)⟩
theorem nowS_of {ib ab k l lift round a d f o L e : Nat} {bb : Nat → Nat} {S S0 T : St} (hv : VR ib ab k S0 T) (hl : l < k) (hN : Now T l lift round a d f o bb) (hL : a ≠ 0 → lst T l = nI L ∧ 1 ≤ L ∧ L ≤ 41) (he : e ≤ 121) (n50 : S.1 50 = nI o) (n51 : S.1 51 = nI lift) (n52 : o = 0 → S.1 52 = nI (sB bb lift + e)) (n53 : S.1 53 = nI (if lift < 3 then bb lift else 0)) (n54 : S.1 54 = nI f) (n56 : S.1 56 = lst T l) (n57 : S.1 57 = nI (leftN round a d)) : NowS S o lift (sB bb lift + e) (bb lift) f (leftN round a d) L := by
  have hleft := hN.left3
  have hpc := hN.pc
  obtain ⟨h1, h2, h3, h4, h5, h6, h7, h8, h9, h10, h11, h12, h13, h14, h15, h16, h17⟩ := id hN
  have hsb := sB_le (fun t ht => (h13 t ht).2) lift h1
  refine ⟨n50, h12, fun q => ⟨n51, h1, n52 q, by omega, fun cl => ⟨by rw [n53, if_pos cl], (h13 lift cl).2, n54, h10, n57, (hleft cl).2, fun q1 => ?_⟩⟩⟩
  have ca : a ≠ 0 := fun z => by unfold leftN at q1; rw [if_pos z] at q1; omega
  obtain ⟨l1, l2, l3⟩ := hL ca
  have hne : mt T l 0 ≠ 0 := by rw [h5, ne_eq, show (0 : Int32) = nI 0 from rfl, eqN (by omega) (by omega)]; exact ca
  have hits := lst_least hv hl hne
  obtain ⟨k1, k2, k3, k4, k5, k6, k7⟩ := h17 cl ca
  rw [l1, tiN (by omega)] at hits
  exact ⟨by rw [n56, l1], l2, l3, by omega, hpc cl ca⟩
theorem lstN {ib ab k l lift round a d f o : Nat} {bb : Nat → Nat} {S T : St} (hv : VR ib ab k S T) (hl : l < k) (hN : Now T l lift round a d f o bb) : ∃ L, a ≠ 0 → lst T l = nI L ∧ 1 ≤ L ∧ L ≤ 41 := by
  by_cases ca : a = 0
  · exact ⟨0, fun q => absurd ca q⟩
  · have h5 : mt T l 0 = nI a := hN.2.2.2.2.1
    have h6 : a ≤ 40 := hN.2.2.2.2.2.1
    have hne : mt T l 0 ≠ 0 := by rw [h5, ne_eq, show (0 : Int32) = nI 0 from rfl, eqN (by omega) (by omega)]; exact ca
    obtain ⟨L0, l1, l2, l3⟩ := lst_nat hv hl hne
    exact ⟨L0, fun _ => ⟨l3, l1, l2⟩⟩
/-- the values agree -/
theorem vf_fr {T : St} {l lift round a d f o L e : Nat} {bb : Nat → Nat} {out : Nat} {W : Nat → Nat} (hl3 : lift ≤ 3) (ho1 : o ≤ 1) (hle : lift < 3 → a ≠ 0 → 1 ≤ leftN round a d) {o' t' s' b' f' j' L' : Nat} (hst : o' = 1 ∨ 3 ≤ t' ∨ (1 ≤ j' ∧ L' ≤ 40)) (ho' : o' ≤ 1)
    (h : (o = 1 ∨ 3 ≤ lift ∨ (1 ≤ leftN round a d ∧ L ≤ 40)) ∧ (o' = o ∧ t' = lift ∧ s' = sB bb lift + e ∧ b' = bb lift ∧ f' = f ∧ j' = leftN round a d ∧ L' = L) ∨ (¬ (o = 1 ∨ 3 ≤ lift ∨ (1 ≤ leftN round a d ∧ L ≤ 40)) ∧ bb lift = 0 ∧ o' = 1) ∨ (¬ (o = 1 ∨ 3 ≤ lift ∨ (1 ≤ leftN round a d ∧ L ≤ 40)) ∧ bb lift ≠ 0 ∧ o' = 0 ∧ t' = lift + 1 ∧ s' = sB bb lift + e + bb lift ∧ b' = 0 ∧ f' = 0 ∧ j' = 3 ∧ L' = 1)) :
    vfN T l out W o' t' s' b' f' j' L' = frN T l lift round a d f o L bb out W e := by
  have hiff : lift < 3 → ((1 ≤ leftN round a d ∧ L ≤ 40) ↔ (a ≠ 0 ∧ L ≤ 40)) := fun cl => by
    constructor
    · intro q
      refine ⟨fun z => ?_, q.2⟩
      have := q.1
      unfold leftN at this
      rw [if_pos z] at this
      omega
    · intro q
      exact ⟨hle cl q.1, q.2⟩
  unfold vfN frN
  rcases h with ⟨q1, rfl, rfl, rfl, rfl, rfl, rfl, rfl⟩ | ⟨q1, q2, rfl⟩ | ⟨q1, q2, rfl, rfl, rfl, rfl, rfl, rfl, rfl⟩
  · by_cases c : o' = 1
    · rw [if_pos c, if_pos c]
    · rw [if_neg c, if_neg c]
      by_cases ct : t' < 3
      · rw [if_pos ct, if_pos ct, if_pos (show 1 ≤ leftN round a d ∧ L' ≤ 40 by omega), if_pos ((hiff ct).mp (by omega))]
      · rw [if_neg ct, if_neg ct]
  · rw [if_pos rfl, if_neg (show ¬ o = 1 by omega), if_pos (show lift < 3 by omega), if_neg (fun q => q1 (Or.inr (Or.inr ((hiff (by omega)).mpr q)))), if_pos q2]
  · rw [if_neg (by omega), if_neg (show ¬ o = 1 by omega), if_pos (show lift < 3 by omega), if_neg (fun q => q1 (Or.inr (Or.inr ((hiff (by omega)).mpr q)))), if_neg q2]
    by_cases ct : lift + 1 < 3
    · rw [if_pos ct, if_pos ct, if_pos (by omega)]
    · rw [if_neg ct, if_neg ct]
def chTail (n : Nat) (S F : St) (p0 : Int32) : Option (Int32 × St × St) := (m_X5_look S p0).bind (fun r3 => (m_X5_findTry n r3).bind (fun r5 => (m_X2_valueFrom n r5.2 F).bind (fun r7 => (m_X8_byPlan n r5.2 p0).bind (fun r9 => (m_X8_tellTwo r9.2 (r7.2.1 62) r9.1).bind (fun r11 => some (r7.1, r11, r7.2))))))
theorem chTail8 {k l n lift round a d f o L : Nat} {bb : Nat → Nat} {S T F : St} {W tp : Nat → Nat} {out : Nat} (hv : VR 30 25 k S T) (hl : l < k) (hN : Now T l lift round a d f o bb) (hL : a ≠ 0 → lst T l = nI L ∧ 1 ≤ L ∧ L ≤ 41) (hF : FI k l T W out tp F) (hn : 200 ≤ n) (h60 : S.1 60 = nI out) (hW : ∀ x, x < 242 → S.2.1 45 x = nI (W x)) :
    ∃ S2 F', chTail n S F (nI l) = some (nI (frN T l lift round a d f o L bb out W 0).1, sI (sJ (sJ S2 58 0 (nI (frN T l lift round a d f o L bb out W 0).2).toInt64) 58 1 (nI (pvN T l lift round a d f o bb out W 0)).toInt64) 0 2, F') ∧ FrD S S2 := by
  have hleft := hN.left3
  obtain ⟨S1, b1, b2, b3, b4, b5, b6, b7, b8, b9, b10, b11⟩ := look8 hv hl hN
  have hNS := nowS_of (e := 0) (S := S1) hv hl hN hL (by omega) b4 b5 (fun q => by rw [b6, if_neg (by omega), Nat.add_zero]) b7 b8 b10 b11
  obtain ⟨S2, o', t', s', b', f', j', L', c1, c2, c3, c4, c5⟩ := find8 (n := n) hNS (by omega)
  obtain ⟨F', d1, d2, d3⟩ := valF (n := n) hv hl hF c3 (by omega)
  have hvf := vf_fr (T := T) (l := l) (out := out) (W := W) hN.1 hN.2.2.2.2.2.2.2.2.2.2.2.1 (fun cl ca => by
    have k1 := (hN.2.2.2.2.2.2.2.2.2.2.2.2.2.2.2.2 cl ca).1
    unfold leftN; rw [if_neg ca]; omega) c4 c3.2.1 c5
  rw [hvf] at d1 d3
  have hW01 : FrW S S1 := ⟨b2, b3⟩
  have hSW : FrW S S2 := hW01.trans c2
  have hv2 : VR 30 25 k S2 T := hv.congr hSW.fd.eqs (EqT.rfl T)
  obtain ⟨S3, e1, e2⟩ := byPlan8 (n := n) (out := out) (W := W) hv2 hl hN (by omega) (by rw [hSW.1 60 (by omega)]; exact h60) (fun x hx => by rw [hSW.2]; exact hW x hx) hF.1.2.1 hF.1.2.2
  refine ⟨S3, F', ?_, hSW.fd.trans e2.fd⟩
  unfold chTail
  rw [b1, Option.bind_some, c1, Option.bind_some, d1, Option.bind_some, e1, Option.bind_some, tellTwo8, Option.bind_some, d3 c4]
/-- both tell of the best loads -/
theorem choice_both {k l n : Nat} {S T S1 T1 : St} {oF oP : Option St} {W : Nat → Nat} (hR : RelB S oF oP T) (hc : CoreR k S T) (hD : FrD S S1) (hv1 : VR 30 25 k S1 T1) (hl : l < k) (hn : 500 ≤ n) (h60 : S1.1 60 = nI (W 0)) (hW : ∀ x, x < 242 → S1.2.1 45 x = nI (W x)) (hWl : ∀ x, x < 242 → W x ≤ 1000000) (h28 : ∀ x, x ≤ 120 → T1.2.1 28 x = nI (W x)) (t1 : T1.1 = T.1) (t2 : T1.2.2 = T.2.2) (t3 : ∀ a, (a < 28 ∨ 30 < a) → T1.2.1 a = T.2.1 a) :
    ∃ (r : Int32) (S' : St) (oF' : Option St) (T' : St), ((∃ F F', oF = some F ∧ oF' = some F' ∧ m_X8_byChoice n S1 F (nI l) = some (r, S', F')) ∨ (∃ F', oF = none ∧ oF' = some F' ∧ m_X8_byChoiceB n S1 (nI l) = some (r, S', F'))) ∧ m_X9_tellsFree n T1 (nI l) = some (r, T') ∧ RelB S' oF' oP T' := by
  have hk := hv1.1
  obtain ⟨hf, hro, _⟩ := id hR
  have hET : EqT T T1 := ⟨⟨by rw [t1], by rw [t1], by rw [t1], by rw [t1], by rw [t1]⟩, fun a q1 q2 => t3 a (by omega), t3 11 (by omega), t3 15 (by omega), t3 17 (by omega)⟩
  obtain ⟨lift, round, a, d, f, o, bb, hN⟩ := now_of hv1 hl
  obtain ⟨L, hL⟩ := lstN hv1 hl hN
  obtain ⟨T2, f1, f2, f3⟩ := free9 (n := n) hv1 hl hN hL (by omega) h28 (fun x hx => hWl x (by omega))
  -- the reference tells
  have hT3 : EqT T1 (sI T2 1 0) := f2.eqt
  have hr9 : ∃ T', m_X9_tellsFree n T1 (nI l) = some (nI (frN T1 l lift round a d f o L bb (W 0) W 0).1, T') ∧ EqT T1 T' ∧ T'.1 1 = nI 2 ∧ T'.2.2.1 2 0 = (nI (frN T1 l lift round a d f o L bb (W 0) W 0).2).toInt64 ∧ T'.2.2.1 2 1 = (nI (pvN T1 l lift round a d f o bb (W 0) W 0)).toInt64 := by
    have hT4 : EqT T1 (sI (sJ (sI T2 1 0) 2 0 (nI (frN T1 l lift round a d f o L bb (W 0) W 0).2).toInt64) 1 (nI (0 + 1))) := EqT.note hT3 _ _ _
    have r := planNow9 (n := n) (W := W) (hv1.congrT hT4) hl (hN.congr (hT4.2.2.1)) (by omega) (fun x hx => by
      show T2.2.1 28 x = _
      rw [f2.2.1 28 (by omega) (by omega)]; exact h28 x hx) (fun x hx => hWl x (by omega))
    rw [pvN_eqT hT4] at r
    refine ⟨sI (sJ (sI (sJ (sI T2 1 0) 2 0 (nI (frN T1 l lift round a d f o L bb (W 0) W 0).2).toInt64) 1 (nI (0 + 1))) 2 1 (nI (pvN T1 l lift round a d f o bb (W 0) W 0)).toInt64) 1 (nI (1 + 1)), ?_, EqT.note hT4 _ _ _, rfl, (two9 (sI T2 1 0) _ _ _).1, (two9 (sI T2 1 0) _ _ _).2⟩
    unfold m_X9_tellsFree
    rw [f1, Option.bind_some, nmE, show (sI T2 1 0).1 34 = T2.1 34 from sI_ne (by omega), f3, notes_eq (t := 0) (by omega) rfl, Option.bind_some, r, Option.bind_some, notes_eq (t := 1) (by omega) rfl, Option.bind_some]
  obtain ⟨T', g1, g2, g3, g4, g5⟩ := hr9
  -- the class tells, by any of its states that stands for S1
  have h8 : ∀ (SX FX : St) (oF' : Option St) (tp : Nat → Nat), FrD S SX ∨ True → VR 30 25 k SX T1 → EqS S SX → SX.1 60 = nI (W 0) → (∀ x, x < 242 → SX.2.1 45 x = nI (W x)) → FI k l T1 W (W 0) tp FX → ∃ S2 F', chTail n SX FX (nI l) = some (nI (frN T1 l lift round a d f o L bb (W 0) W 0).1, sI (sJ (sJ S2 58 0 (nI (frN T1 l lift round a d f o L bb (W 0) W 0).2).toInt64) 58 1 (nI (pvN T1 l lift round a d f o bb (W 0) W 0)).toInt64) 0 2, F') ∧ FrD SX S2 := fun SX FX oF' tp _ hvX _ hX60 hXW hFX => chTail8 (n := n) hvX hl hN hL hFX (by omega) hX60 hXW
  have hrel : ∀ (SX S2 F' : St), EqS S SX → FrD SX S2 → RefR SX (some F') oP → RelB (sI (sJ (sJ S2 58 0 (nI (frN T1 l lift round a d f o L bb (W 0) W 0).2).toInt64) 58 1 (nI (pvN T1 l lift round a d f o bb (W 0) W 0)).toInt64) 0 2) (some F') oP T' := fun SX S2 F' hE hD2 hRf => by
    refine ⟨(hD2.ref hRf).congr rfl, row2' rfl g3 ?_ ?_, k, hc.congr (EqS.told (hE.trans hD2.eqs) 2) (hET.trans g2)⟩
    · rw [g4]; exact (two8 S2 _ _).1
    · rw [g5]; exact (two8 S2 _ _).2
  have hRf1 := hD.ref hf
  rcases hf.1 with ⟨z1, z2⟩ | ⟨F, z1, z2⟩
  · -- nobody has thought freely yet
    have e2 : S1.2.2.2 2 = none := (hD.2.2.2.1 2 (by omega) (by omega)).trans z2
    have hw : ∀ {α : Type} (x : Option α), ckw (S1.2.2.2 0) x = x := fun x => by
      rcases hRf1.2.2 with q | ⟨j, q1, q2⟩
      · rw [q]; rfl
      · rw [q2]
        show (if j < 7 then x else none) = x
        rw [if_pos q1]
    have hvX : VR 30 25 k (sR S1 2 (some 0)) T1 := hv1.congr (EqS.rfl S1) (EqT.rfl T1)
    obtain ⟨FX, tp, p1, p2⟩ := prepF (n := n) (F := Fr0) (out := W 0) (W := W) hvX hl (by omega) h60 hW (hWl 0 (by omega)) hWl
    obtain ⟨S2, F', c1, c2⟩ := h8 (sR S1 2 (some 0)) FX (some FX) tp (Or.inr trivial) hvX hD.eqs h60 hW p2
    refine ⟨_, _, some F', T', Or.inr ⟨F', z1, rfl, ?_⟩, g1, hrel (sR S1 2 (some 0)) S2 F' hD.eqs c2 ⟨Or.inr ⟨F', rfl, rfl⟩, ?_, ?_⟩⟩
    · show (m_X8_thinkFreelyB n S1 (nI l) 0).bind (fun r1 => chTail n r1.1 r1.2 (nI l)) = _
      have : m_X8_thinkFreelyB n S1 (nI l) 0 = some (sR S1 2 (some 0), FX) := by
        unfold m_X8_thinkFreelyB
        rw [e2]
        show ckw (S1.2.2.2 0) _ = _
        rw [hw, nmE, nmE, if_pos rfl, Option.bind_some, show (sR S1 2 (some 0)).2.2.2 2 = some 0 from rfl, onw_some (by omega), ckN (by omega) (by omega), clN (by omega), p1, Option.bind_some, onw_some (by omega)]
      rw [this, Option.bind_some]
      exact c1
    · show (oP = none ∧ (sR S1 2 (some 0)).2.2.2 3 = none) ∨ _
      rw [sR_222, if_neg (by omega)]; exact hRf1.2.1
    · rw [sR_222, if_neg (by omega)]; exact hRf1.2.2
  · have e2 : S1.2.2.2 2 = some 0 := (hD.2.2.2.1 2 (by omega) (by omega)).trans z2
    obtain ⟨FX, tp, p1, p2⟩ := prepF (n := n) (F := F) (out := W 0) (W := W) hv1 hl (by omega) h60 hW (hWl 0 (by omega)) hWl
    obtain ⟨S2, F', c1, c2⟩ := h8 S1 FX (some FX) tp (Or.inr trivial) hv1 hD.eqs h60 hW p2
    refine ⟨_, _, some F', T', Or.inl ⟨F, F', z1, rfl, ?_⟩, g1, hrel S1 S2 F' hD.eqs c2 ⟨Or.inr ⟨F', rfl, e2⟩, hRf1.2.1, hRf1.2.2⟩⟩
    show (m_X8_thinkFreely n S1 F (nI l) 0).bind (fun r1 => chTail n r1.1 r1.2 (nI l)) = _
    have : m_X8_thinkFreely n S1 F (nI l) 0 = some (S1, FX) := by
      unfold m_X8_thinkFreely
      rw [e2, onw_some (by omega), if_pos rfl, Option.bind_some, e2, onw_some (by omega), ckN (by omega) (by omega), clN (by omega), p1, Option.bind_some, onw_some (by omega)]
    rw [this, Option.bind_some]
    exact c1
/-- heavy -/
theorem hb_24 (n : Nat) (hn : 600 ≤ n) : HB_24 n RelB := by
  intro S oF oP T a1 hR
  obtain ⟨hf, hro, k, hc⟩ := id hR
  have hv := hc.vr.congrT (EqT.thr T 0)
  have hk := hv.1
  have hc0 := hc.congr (EqS.rfl S) (EqT.thr T 0)
  unfold m_X9_heavy
  simp only [nmE]
  rcases isL hv a1 with ⟨l, hl, rfl, e1, e2⟩ | ⟨e1, e2⟩
  · rw [e2]
    simp only [Option.bind_some, b10, if_false]
    obtain ⟨S1, p1, p2, p3, p4⟩ := beMass8 (n := n) (S := S) (by omega)
    obtain ⟨T1, q1, q2, q3, q4, q5⟩ := aimsMass_L 121 0 n (sI T 0 0) (by omega) (by omega) (fun y hy => absurd hy (by omega))
    have hq : m_X9_aimsMass n (sI T 0 0) = some T1 := by
      unfold m_X9_aimsMass
      rw [show m_X9_aimsMass_L2 n (sI T 0 0) 0 = _ from q1]; rfl
    have hET : EqT (sI T 0 0) T1 := ⟨⟨by rw [q2], by rw [q2], by rw [q2], by rw [q2], by rw [q2]⟩, fun a z1 z2 => q4 a (by omega), q4 11 (by omega), q4 15 (by omega), q4 17 (by omega)⟩
    obtain ⟨r, S', oF', T', h1, h2, h3⟩ := choice_both (n := n) (W := fun x => 1000 * x) (hR.thr 0) hc0 p2.fd (hv.congr p2.eqs hET) hl (by omega) p3 p4 (fun x hx => by omega) q5 q2 q3 (fun a ha => q4 a (by omega))
    rw [hq]
    simp only [Option.bind_some]
    rw [h2]
    refine ⟨r, S', oF', T', ?_, rfl, h3⟩
    rcases h1 with ⟨F, F', z1, z2, z3⟩ | ⟨F', z1, z2, z3⟩
    · refine Or.inl ⟨F, F', z1, z2, ?_⟩
      unfold m_X8_heavy
      rw [e1, Option.bind_some, if_neg (show ¬ (1 : Int32) = 0 by decide), p1, Option.bind_some, z3, Option.bind_some]
    · refine Or.inr (Or.inr ⟨F', z1, z2, ?_⟩)
      unfold m_X8_heavyB
      rw [e1, Option.bind_some, if_neg (show ¬ (1 : Int32) = 0 by decide), p1, Option.bind_some, z3, Option.bind_some]
  · rw [e2]
    simp only [Option.bind_some, b00, if_true]
    refine ⟨-1, S, oF, sI T 0 0, ?_, rfl, hR.thr 0⟩
    rcases hf.1 with ⟨z1, z2⟩ | ⟨F, z1, z2⟩
    · refine Or.inr (Or.inl ⟨z1, z1, ?_⟩)
      unfold m_X8_heavyN
      rw [e1, Option.bind_some, if_pos rfl]
    · refine Or.inl ⟨F, F, z1, z1, ?_⟩
      unfold m_X8_heavy
      rw [e1, Option.bind_some, if_pos rfl]
/-- reach -/
theorem hb_25 (n : Nat) (hn : 600 ≤ n) : HB_25 n RelB := by
  intro S oF oP T a1 a2 hR
  obtain ⟨hf, hro, k, hc⟩ := id hR
  have hv := hc.vr.congrT (EqT.thr T 0)
  have hk := hv.1
  have hc0 := hc.congr (EqS.rfl S) (EqT.thr T 0)
  unfold m_X9_reach
  simp only [nmE]
  rcases isL hv a1 with ⟨l, hl, rfl, e1, e2⟩ | ⟨e1, e2⟩
  · rw [e2]
    simp only [Option.bind_some, b10, if_false]
    rcases isW S (sI T 0 0) a2 with ⟨w, hw, rfl, f1, f2⟩ | ⟨f1, f2⟩
    · rw [f2]
      simp only [Option.bind_some, b10, if_false]
      obtain ⟨S1, p1, p2, p3, p4⟩ := beReach8 (n := n) (S := S) hw (by omega)
      obtain ⟨T1, q1, q2, q3, q4, q5⟩ := aimsReach9 (n := n) (T := sI T 0 0) hw (by omega)
      have hET : EqT (sI T 0 0) T1 := ⟨⟨by rw [q2], by rw [q2], by rw [q2], by rw [q2], by rw [q2]⟩, fun a z1 z2 => q4 a (by omega), q4 11 (by omega), q4 15 (by omega), q4 17 (by omega)⟩
      obtain ⟨r, S', oF', T', h1, h2, h3⟩ := choice_both (n := n) (W := Wr w) (hR.thr 0) hc0 p2.fd (hv.congr p2.eqs hET) hl (by omega) p3 p4 (fun x _ => Wr_le w x) q5 q2 q3 (fun a ha => q4 a (by omega))
      rw [q1]
      simp only [Option.bind_some]
      rw [h2]
      refine ⟨r, S', oF', T', ?_, rfl, h3⟩
      rcases h1 with ⟨F, F', z1, z2, z3⟩ | ⟨F', z1, z2, z3⟩
      · refine Or.inl ⟨F, F', z1, z2, ?_⟩
        unfold m_X8_reach
        rw [e1, Option.bind_some, if_neg (show ¬ (1 : Int32) = 0 by decide), f1, Option.bind_some, if_neg (show ¬ (1 : Int32) = 0 by decide), p1, Option.bind_some, z3, Option.bind_some]
      · refine Or.inr (Or.inr ⟨F', z1, z2, ?_⟩)
        unfold m_X8_reachB
        rw [e1, Option.bind_some, if_neg (show ¬ (1 : Int32) = 0 by decide), f1, Option.bind_some, if_neg (show ¬ (1 : Int32) = 0 by decide), p1, Option.bind_some, z3, Option.bind_some]
    · rw [f2]
      simp only [Option.bind_some, b00, if_true]
      refine ⟨-1, S, oF, sI T 0 0, ?_, rfl, hR.thr 0⟩
      rcases hf.1 with ⟨z1, z2⟩ | ⟨F, z1, z2⟩
      · refine Or.inr (Or.inl ⟨z1, z1, ?_⟩)
        unfold m_X8_reachN
        rw [e1, Option.bind_some, if_neg (show ¬ (1 : Int32) = 0 by decide), f1, Option.bind_some, if_pos rfl]
      · refine Or.inl ⟨F, F, z1, z1, ?_⟩
        unfold m_X8_reach
        rw [e1, Option.bind_some, if_neg (show ¬ (1 : Int32) = 0 by decide), f1, Option.bind_some, if_pos rfl]
  · rw [e2]
    simp only [Option.bind_some, b00, if_true]
    refine ⟨-1, S, oF, sI T 0 0, ?_, rfl, hR.thr 0⟩
    rcases hf.1 with ⟨z1, z2⟩ | ⟨F, z1, z2⟩
    · refine Or.inr (Or.inl ⟨z1, z1, ?_⟩)
      unfold m_X8_reachN
      rw [e1, Option.bind_some, if_pos rfl]
    · refine Or.inl ⟨F, F, z1, z1, ?_⟩
      unfold m_X8_reach
      rw [e1, Option.bind_some, if_pos rfl]
/-- against -/
theorem hb_27 (n : Nat) (hn : 600 ≤ n) : HB_27 n RelB := by
  intro S oF oP T a1 a2 hR
  obtain ⟨hf, hro, k, hc⟩ := id hR
  have hv := hc.vr.congrT (EqT.thr T 0)
  have hk := hv.1
  have hc0 := hc.congr (EqS.rfl S) (EqT.thr T 0)
  unfold m_X9_against
  simp only [nmE]
  rcases isL hv a1 with ⟨l, hl, rfl, e1, e2⟩ | ⟨e1, e2⟩
  · rw [e2]
    simp only [Option.bind_some, b10, if_false]
    rcases isL hv a2 with ⟨m, hm, rfl, f1, f2⟩ | ⟨f1, f2⟩
    · rw [f2]
      simp only [Option.bind_some, b10, if_false]
      rw [ifeqN (by omega) (by omega)]
      by_cases clm : l = m
      · rw [if_pos clm]
        refine ⟨-1, S, oF, sI T 0 0, ?_, rfl, hR.thr 0⟩
        rcases hf.1 with ⟨z1, z2⟩ | ⟨F, z1, z2⟩
        · refine Or.inr (Or.inl ⟨z1, z1, ?_⟩)
          unfold m_X8_againstN
          rw [e1, Option.bind_some, if_neg (show ¬ (1 : Int32) = 0 by decide), f1, Option.bind_some, if_neg (show ¬ (1 : Int32) = 0 by decide), if_pos (by rw [clm])]
        · refine Or.inl ⟨F, F, z1, z1, ?_⟩
          unfold m_X8_against
          rw [e1, Option.bind_some, if_neg (show ¬ (1 : Int32) = 0 by decide), f1, Option.bind_some, if_neg (show ¬ (1 : Int32) = 0 by decide), if_pos (by rw [clm])]
      · rw [if_neg clm]
        have hne : ¬ nI l = nI m := by rw [eqN (by omega) (by omega)]; exact clm
        obtain ⟨S1, T1, W, p1, p2, p3, p4, p5, p6, p7, p8, p9, p10, p11⟩ := aimBeat_same (n := n) hv hl hm (by omega)
        have hET : EqT (sI T 0 0) T1 := ⟨⟨by rw [p8], by rw [p8], by rw [p8], by rw [p8], by rw [p8]⟩, fun a z1 z2 => p10 a (by omega) (by omega), p10 11 (by omega) (by omega), p10 15 (by omega) (by omega), p10 17 (by omega) (by omega)⟩
        obtain ⟨r, S', oF', T', h1, h2, h3⟩ := choice_both (n := n) (W := W) (hR.thr 0) hc0 (p3.fd (by omega)) (hv.congr p3.eqs hET) hl (by omega) (by rw [p7]; exact p4) p5 (fun x _ => p6 x) p11 p8 p9 (fun a ha => p10 a (by omega) (by omega))
        rw [p2]
        simp only [Option.bind_some]
        rw [h2]
        refine ⟨r, S', oF', T', ?_, rfl, h3⟩
        rcases h1 with ⟨F, F', z1, z2, z3⟩ | ⟨F', z1, z2, z3⟩
        · refine Or.inl ⟨F, F', z1, z2, ?_⟩
          unfold m_X8_against
          rw [e1, Option.bind_some, if_neg (show ¬ (1 : Int32) = 0 by decide), f1, Option.bind_some, if_neg (show ¬ (1 : Int32) = 0 by decide), if_neg hne, p1, Option.bind_some, z3, Option.bind_some]
        · refine Or.inr (Or.inr ⟨F', z1, z2, ?_⟩)
          unfold m_X8_againstB
          rw [e1, Option.bind_some, if_neg (show ¬ (1 : Int32) = 0 by decide), f1, Option.bind_some, if_neg (show ¬ (1 : Int32) = 0 by decide), if_neg hne, p1, Option.bind_some, z3, Option.bind_some]
    · rw [f2]
      simp only [Option.bind_some, b00, if_true]
      refine ⟨-1, S, oF, sI T 0 0, ?_, rfl, hR.thr 0⟩
      rcases hf.1 with ⟨z1, z2⟩ | ⟨F, z1, z2⟩
      · refine Or.inr (Or.inl ⟨z1, z1, ?_⟩)
        unfold m_X8_againstN
        rw [e1, Option.bind_some, if_neg (show ¬ (1 : Int32) = 0 by decide), f1, Option.bind_some, if_pos rfl]
      · refine Or.inl ⟨F, F, z1, z1, ?_⟩
        unfold m_X8_against
        rw [e1, Option.bind_some, if_neg (show ¬ (1 : Int32) = 0 by decide), f1, Option.bind_some, if_pos rfl]
  · rw [e2]
    simp only [Option.bind_some, b00, if_true]
    refine ⟨-1, S, oF, sI T 0 0, ?_, rfl, hR.thr 0⟩
    rcases hf.1 with ⟨z1, z2⟩ | ⟨F, z1, z2⟩
    · refine Or.inr (Or.inl ⟨z1, z1, ?_⟩)
      unfold m_X8_againstN
      rw [e1, Option.bind_some, if_pos rfl]
    · refine Or.inl ⟨F, F, z1, z1, ?_⟩
      unfold m_X8_against
      rw [e1, Option.bind_some, if_pos rfl]
/-! to win -/
theorem toWin2_L {k l : Nat} {T : St} (hl : l < k) : ∀ D i n S, i + D = k → D + 260 ≤ n → VR 30 25 k S T → (∀ j, j < i → j ≠ l → ∀ y, y ≤ 121 → S.2.1 (52 + j) y = nI (cT T j y)) →
    ∃ S', m_X8_aimToWin_L2 n S (nI l) (nI i) = some S' ∧ FrD S S' ∧ (∀ j, j < k → j ≠ l → ∀ y, y ≤ 121 → S'.2.1 (52 + j) y = nI (cT T j y)) := by
  intro D
  induction D with
  | zero =>
    intro i n S hi hn hv hc
    obtain ⟨m, rfl⟩ : ∃ m, n = m + 1 := ⟨n - 1, by omega⟩
    have hk := hv.1
    refine ⟨S, ?_, FrD.rfl S, fun j hj => hc j (by omega)⟩
    unfold m_X8_aimToWin_L2
    rw [show S.1 30 = nI k from hv.size, if_pos (show nI k ≤ nI i by rw [leN (by omega) (by omega)]; omega)]
  | succ D ih =>
    intro i n S hi hn hv hc
    obtain ⟨m, rfl⟩ : ∃ m, n = m + 1 := ⟨n - 1, by omega⟩
    have hk := hv.1
    unfold m_X8_aimToWin_L2
    rw [show S.1 30 = nI k from hv.size, if_neg (show ¬ nI k ≤ nI i by rw [leN (by omega) (by omega)]; omega), ifeqN (by omega) (by omega), s1]
    by_cases c : i = l
    · rw [if_pos c]
      exact ih (i + 1) m S (by omega) (by omega) hv (fun j hj hjl => hc j (by omega) hjl)
    · rw [if_neg c]
      obtain ⟨S1, p1, p2, p3⟩ := chances8 (n := m) hv (show i < k by omega) (now_T hv (show i < k by omega)) (by omega)
      obtain ⟨S', e1, e2, e3⟩ := ih (i + 1) m S1 (by omega) (by omega) (hv.congr p2.eqs (EqT.rfl T)) (fun j hj hjl y hy => by
        by_cases cj : j = i
        · subst cj; exact p3 y hy
        · rw [p2.2.1 (52 + j) (by omega) (by omega) (by omega)]; exact hc j (by omega) hjl y hy)
      refine ⟨S', ?_, (p2.fd (by omega)).trans e2, e3⟩
      rw [p1, Option.bind_some]
      exact e1
/-- both aim to win -/
theorem aimWin_same {k n l : Nat} {S T : St} (hv : VR 30 25 k S T) (hl : l < k) (hn : 400 ≤ n) :
    ∃ (S' T' : St) (W : Nat → Nat), m_X8_aimToWin n S (nI l) = some S' ∧ m_X9_aimsWin n T (nI l) = some T' ∧ FrD S S' ∧ S'.1 60 = nI (W 0) ∧ (∀ x, x < 242 → S'.2.1 45 x = nI (W x)) ∧ (∀ x, W x ≤ 1000000) ∧ T'.1 = T.1 ∧ T'.2.2 = T.2.2 ∧ (∀ r, (r < 28 ∨ 30 < r) → T'.2.1 r = T.2.1 r) ∧ (∀ x, x ≤ 120 → T'.2.1 28 x = nI (W x)) := by
  have hk := hv.1
  obtain ⟨S1, a1, a2, a3⟩ := toWin2_L (T := T) hl k 0 n S (by omega) (by omega) hv (fun j hj => absurd hj (by omega))
  obtain ⟨S2, b1, b2, b3, b4⟩ := aheadAll8 (n := n) (hv.congr a2.eqs (EqT.rfl T)) hl (by omega) a3
  obtain ⟨T1, c1, c2, c3, c4, c5⟩ := aimsWin9 (n := n) hv hl (by omega)
  refine ⟨S2, T1, pwN (cT T) (ldN T l) l k, ?_, c1, a2.trans b2.fd, by rw [pwN_0]; exact b3, b4, pwN_le _ _ _ k, c2, c3, c4, c5⟩
  unfold m_X8_aimToWin
  rw [show m_X8_aimToWin_L2 n S (nI l) 0 = _ from a1, Option.bind_some, b1, Option.bind_some]
/-- gold -/
theorem hb_28 (n : Nat) (hn : 600 ≤ n) : HB_28 n RelB := by
  intro S oF oP T a1 hR
  obtain ⟨hf, hro, k, hc⟩ := id hR
  have hv := hc.vr.congrT (EqT.thr T 0)
  have hk := hv.1
  have hc0 := hc.congr (EqS.rfl S) (EqT.thr T 0)
  unfold m_X9_gold
  simp only [nmE]
  rcases isL hv a1 with ⟨l, hl, rfl, e1, e2⟩ | ⟨e1, e2⟩
  · rw [e2]
    simp only [Option.bind_some, b10, if_false]
    obtain ⟨S1, T1, W, p1, p2, p3, p4, p5, p6, p8, p9, p10, p11⟩ := aimWin_same (n := n) hv hl (by omega)
    have hET : EqT (sI T 0 0) T1 := ⟨⟨by rw [p8], by rw [p8], by rw [p8], by rw [p8], by rw [p8]⟩, fun a z1 z2 => p10 a (by omega), p10 11 (by omega), p10 15 (by omega), p10 17 (by omega)⟩
    obtain ⟨r, S', oF', T', h1, h2, h3⟩ := choice_both (n := n) (W := W) (hR.thr 0) hc0 p3 (hv.congr p3.eqs hET) hl (by omega) p4 p5 (fun x _ => p6 x) p11 p8 p9 p10
    rw [p2]
    simp only [Option.bind_some]
    rw [h2]
    refine ⟨r, S', oF', T', ?_, rfl, h3⟩
    rcases h1 with ⟨F, F', z1, z2, z3⟩ | ⟨F', z1, z2, z3⟩
    · refine Or.inl ⟨F, F', z1, z2, ?_⟩
      unfold m_X8_gold
      rw [e1, Option.bind_some, if_neg (show ¬ (1 : Int32) = 0 by decide), p1, Option.bind_some, z3, Option.bind_some]
    · refine Or.inr (Or.inr ⟨F', z1, z2, ?_⟩)
      unfold m_X8_goldB
      rw [e1, Option.bind_some, if_neg (show ¬ (1 : Int32) = 0 by decide), p1, Option.bind_some, z3, Option.bind_some]
  · rw [e2]
    simp only [Option.bind_some, b00, if_true]
    refine ⟨-1, S, oF, sI T 0 0, ?_, rfl, hR.thr 0⟩
    rcases hf.1 with ⟨z1, z2⟩ | ⟨F, z1, z2⟩
    · refine Or.inr (Or.inl ⟨z1, z1, ?_⟩)
      unfold m_X8_goldN
      rw [e1, Option.bind_some, if_pos rfl]
    · refine Or.inl ⟨F, F, z1, z1, ?_⟩
      unfold m_X8_gold
      rw [e1, Option.bind_some, if_pos rfl]
