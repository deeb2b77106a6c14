/-! ===== layer B: chances; likeliest, beats, wins, bombs, opener ===== -/
theorem odN_eqT {T T' : St} (h : EqT T T') (l : Nat) : odN T' l = odN T l := by
  funext t x f
  unfold odN od tabT
  rw [h.2.1 6 (by omega) (by omega), h.2.1 7 (by omega) (by omega), h.2.1 8 (by omega) (by omega), h.1.2.1]
theorem plN_eqT {T T' : St} (h : EqT T T') (l : Nat) : plN T' l = plN T l := by
  funext t w
  unfold plN
  rw [h.2.1 9 (by omega) (by omega)]
theorem pvN_eqT {T T' : St} (h : EqT T T') {l lift round a d f o : Nat} {bb : Nat → Nat} {out : Nat} {W : Nat → Nat} {e : Nat} : pvN T' l lift round a d f o bb out W e = pvN T l lift round a d f o bb out W e := by
  unfold pvN
  rw [odN_eqT h, plN_eqT h]
theorem pvN_shift {T : St} {l lift round a d f o : Nat} {bb : Nat → Nat} {out e : Nat} {W : Nat → Nat} (hb : ∀ t, t < 3 → bb t ≤ 40) : pvN T l lift round a d f o bb out W e = pvN T l lift round a d f o bb out (fun x => W (x + e)) 0 := by
  unfold pvN
  by_cases c1 : o = 1
  · rw [if_pos c1, if_pos c1]
  · rw [if_neg c1, if_neg c1]
    by_cases c2 : lift < 3
    · rw [if_pos c2, if_pos c2]
      refine pvL_congr (fun b _ => ?_) _ _ _ _ (hb lift c2)
      rw [show sB bb lift + e + b = (sB bb lift + 0 + b) + e by omega, pvS_shift]
    · rw [if_neg c2, if_neg c2]; rfl
theorem pvN_const {T : St} {l lift round a d f o k : Nat} {bb : Nat → Nat} {c : Nat} {W : Nat → Nat} {ib ab : Nat} {S : St} (hv : VR ib ab k S T) (hl : l < k) (hN : Now T l lift round a d f o bb) (hW : ∀ x, x ≤ 120 → W x = c) : pvN T l lift round a d f o bb c W 0 = c := by
  have hleft := hN.left3
  obtain ⟨h1, h2, h3, h4, h5, h6, h7, h8, h9, h10, h11, h12, h13, h14, h15, h16, h17⟩ := id hN
  have hsb := sB_le (fun t ht => (h13 t ht).2) lift h1
  have hDD : ∀ t a f, t < 3 → a ≤ 40 → f ≤ 3 → odN T l t a f ≤ 1000 := fun t a f ht ha hf => (od_nat hv hl ht ha hf).2
  unfold pvN
  by_cases c1 : o = 1
  · rw [if_pos c1]
  · rw [if_neg c1]
    by_cases c2 : lift < 3
    · rw [if_pos c2]
      have hbl : ∀ b, b ≤ 40 → pvS (odN T l) (plN T l) c W (2 - lift) (sB bb lift + 0 + b) = c := fun b hb => pvS_const (B := 120) hDD hW (2 - lift) _ (by omega) (by omega)
      by_cases ca : a = 0
      · rw [pvL_stop (by omega)]
        split
        · rfl
        · exact hbl _ (h13 lift c2).2
      · exact pvL_const (fun a f => hDD lift a f c2) hbl _ _ _ _ (h13 lift c2).2 ((hleft c2).1 ca)
    · rw [if_neg c2]; exact hW _ (by omega)
/-- the chance to reach w -/
def cwN (T : St) (l lift round a d f o : Nat) (bb : Nat → Nat) (w : Nat) : Nat := if w = 0 then 1000000 else if w = 121 then 0 else pvN T l lift round a d f o bb 0 (Wr w) 0
theorem cwN_le {T : St} {l lift round a d f o k : Nat} {bb : Nat → Nat} {ib ab : Nat} {S : St} (hv : VR ib ab k S T) (hl : l < k) (hN : Now T l lift round a d f o bb) (w : Nat) : cwN T l lift round a d f o bb w ≤ 1000000 := by
  unfold cwN
  split
  · omega
  · split
    · omega
    · exact pvN_le hv hl hN (by omega) (fun x _ => Wr_le w x)
theorem cwN_eqT {T T' : St} (h : EqT T T') {l lift round a d f o : Nat} {bb : Nat → Nat} {w : Nat} : cwN T' l lift round a d f o bb w = cwN T l lift round a d f o bb w := by
  unfold cwN
  rw [pvN_eqT h]
/-- what stays of the class as the chances of l are laid -/
def FrC (l : Nat) (S S' : St) : Prop := (∀ i, (i < 50 ∨ 61 < i) → S'.1 i = S.1 i) ∧ (∀ a, a ≠ 45 → (a < 48 ∨ 50 < a) → a ≠ 52 + l → S'.2.1 a = S.2.1 a) ∧ S'.2.2.1 = S.2.2.1 ∧ (∀ j, j ≠ 0 → j ≠ 1 → S'.2.2.2 j = S.2.2.2 j) ∧ ∃ l, l < 7 ∧ S'.2.2.2 0 = some l
theorem chances_L {k l lift round a d f o : Nat} {bb : Nat → Nat} {T : St} (hl : l < k) (hN : Now T l lift round a d f o bb) : ∀ D w n S, w + D = 122 → 1 ≤ w → D + 1 ≤ n → IV k l T (Wr 121) 0 S → S.1 50 = nI o → S.1 51 = nI lift → S.1 53 = nI (if lift < 3 then bb lift else 0) → S.1 54 = nI f → S.1 55 = nI a → S.1 57 = nI (leftN round a d) → (∀ y, y < w → S.2.1 (52 + l) y = nI (cwN T l lift round a d f o bb y)) →
    ∃ S', m_X8_reckonChances_L66 n S (nI (if o = 1 then 0 else sB bb lift)) l (nI w) = some S' ∧ (∀ i, i ≠ 52 → S'.1 i = S.1 i) ∧ (∀ r, (r < 48 ∨ 50 < r) → r ≠ 52 + l → S'.2.1 r = S.2.1 r) ∧ S'.2.2 = S.2.2 ∧ (∀ y, y ≤ 121 → S'.2.1 (52 + l) y = nI (cwN T l lift round a d f o bb y)) := by
  have hb40 : ∀ t, t < 3 → bb t ≤ 40 := fun t ht => (hN.2.2.2.2.2.2.2.2.2.2.2.2.1 t ht).2
  have hl3 : lift ≤ 3 := hN.1
  have ho1 : o ≤ 1 := hN.2.2.2.2.2.2.2.2.2.2.2.1
  have hsb := sB_le hb40 lift hl3
  intro D
  induction D with
  | zero =>
    intro w n S hw hw1 hn hI n50 n51 n53 n54 n55 n57 hch
    obtain ⟨m, rfl⟩ : ∃ m, n = m + 1 := ⟨n - 1, by omega⟩
    refine ⟨S, ?_, fun _ _ => rfl, fun _ _ _ => rfl, rfl, fun y hy => hch y (by omega)⟩
    unfold m_X8_reckonChances_L66
    rw [lit32 122, if_pos (by rw [leN (by omega) (by omega)]; omega)]
  | succ D ih =>
    intro w n S hw hw1 hn hI n50 n51 n53 n54 n55 n57 hch
    obtain ⟨m, rfl⟩ : ∃ m, n = m + 1 := ⟨n - 1, by omega⟩
    have hk := hI.vr.1
    obtain ⟨v, hv52⟩ : ∃ v, nI (if o = 1 then 0 else sB bb lift) + 120 + 1 - nI w = v := ⟨_, rfl⟩
    have ev : o = 0 → v = nI (sB bb lift + (121 - w)) := fun q => by
      rw [← hv52, if_neg (by omega), lit32 120, nI_add, s1, subN (by omega)]; congr 1; omega
    have hI1 : IV k l T (Wr 121) 0 (sI S 52 v) := by
      refine ⟨hI.vr.congr ⟨fun i q1 q2 => sI_ne (by omega), fun _ _ => rfl⟩ (EqT.rfl T), hI.who, hI.goal, ?_, ?_, hI.worth, hI.outle, hI.Wle, hI.memo⟩
      · rw [sI_ne (by omega)]; exact hI.tire
      · rw [sI_ne (by omega)]; exact hI.out60
    obtain ⟨S1, e1, e2, e3⟩ := from8 (e := 121 - w) hl hN hI1 (by omega) (by rw [sI_ne (by omega)]; exact n50) (by rw [sI_ne (by omega)]; exact n51) (fun q => by rw [sI_eq]; exact ev q) (by rw [sI_ne (by omega)]; exact n53) (by rw [sI_ne (by omega)]; exact n54) (by rw [sI_ne (by omega)]; exact n55) (by rw [sI_ne (by omega)]; exact n57)
    have eval : pvN T l lift round a d f o bb 0 (Wr 121) (121 - w) = cwN T l lift round a d f o bb w := by
      rw [pvN_shift hb40]
      have hWw : ∀ x, x ≤ 120 → (fun x => Wr 121 (x + (121 - w))) x = Wr w x := fun x _ => by
        show Wr 121 (x + (121 - w)) = Wr w x
        unfold Wr
        by_cases c : x < w
        · rw [if_pos c, if_pos (by omega)]
        · rw [if_neg c, if_neg (by omega)]
      rw [pvN_congr (B := 120) hl3 hb40 hWw (by omega)]
      unfold cwN
      rw [if_neg (by omega)]
      by_cases c : w = 121
      · rw [if_pos c]
        exact pvN_const hI.vr hl hN (fun x hx => by unfold Wr; rw [if_pos (by omega)])
      · rw [if_neg c]
    have hI2 : IV k l T (Wr 121) 0 (sA S1 (52 + l) w (nI (cwN T l lift round a d f o bb w))) := by
      refine ⟨e3.vr.congr ⟨fun i q1 q2 => rfl, fun x hx => sA_row (by omega)⟩ (EqT.rfl T), e3.who, e3.goal, e3.tire, e3.out60, fun x hx => by rw [sA_row (by omega)]; exact e3.worth x hx, e3.outle, e3.Wle, fun t s ht hs => by rw [sA_row (by omega)]; exact e3.memo t s ht hs⟩
    have hi : ∀ i, i ≠ 52 → (sA S1 (52 + l) w (nI (cwN T l lift round a d f o bb w))).1 i = S.1 i := fun i q => by
      show S1.1 i = _
      rw [e2.1, sI_ne q]
    obtain ⟨S', f1, f2, f3, f4, f5⟩ := ih (w + 1) m (sA S1 (52 + l) w (nI (cwN T l lift round a d f o bb w))) (by omega) (by omega) (by omega) hI2 (by rw [hi 50 (by omega)]; exact n50) (by rw [hi 51 (by omega)]; exact n51) (by rw [hi 53 (by omega)]; exact n53) (by rw [hi 54 (by omega)]; exact n54) (by rw [hi 55 (by omega)]; exact n55) (by rw [hi 57 (by omega)]; exact n57) (fun y hy => by
      by_cases c : y = w
      · subst c; exact sA_eq
      · rw [sA_ne c, e2.2.2 (52 + l) (by omega)]; exact hch y (by omega))
    refine ⟨S', ?_, fun i q => by rw [f2 i q, hi i q], fun r q1 q2 => by rw [f3 r q1 q2, sA_row q2, e2.2.2 r q1]; rfl, by rw [f4]; exact e2.2.1, f5⟩
    unfold m_X8_reckonChances_L66
    simp only [nmE]
    rw [lit32 122, if_neg (by rw [leN (by omega) (by omega)]; omega), hv52, e1]
    simp only [Option.bind_some]
    rw [ckN (by omega) (by omega), clN (by omega), eval, s1]
    exact f1
theorem chances8 {k l n lift round a d f o : Nat} {bb : Nat → Nat} {S T : St} (hv : VR 30 25 k S T) (hl : l < k) (hN : Now T l lift round a d f o bb) (hn : 250 ≤ n) :
    ∃ S', m_X8_reckonChances n S (nI l) = some S' ∧ FrC l S S' ∧ ∀ y, y ≤ 121 → S'.2.1 (52 + l) y = nI (cwN T l lift round a d f o bb y) := by
  have hk := hv.1
  obtain ⟨S1, p1, p2, p3, p4⟩ := beReach8 (n := n) (w := 121) (S := S) (by omega) (by omega)
  obtain ⟨S2, a1, a2, a3, a4, a5, a6, a7⟩ := prepare8 (n := n) (out := 0) (W := Wr 121) (hv.congr p2.eqs (EqT.rfl T)) hl (by omega) p3 p4 (by omega) (fun x _ => Wr_le 121 x)
  obtain ⟨S3, b1, b2, b3, b4, b5, b6, b7, b8, b9, b10, b11⟩ := look8 a2.vr hl hN
  have hI3 : IV k l T (Wr 121) 0 (sA S3 (52 + l) 0 1000000) := by
    have r : ∀ x, x ≠ 52 + l → (sA S3 (52 + l) 0 1000000).2.1 x = S2.2.1 x := fun x hx => by rw [sA_row hx, b3]
    refine ⟨a2.vr.congr ⟨fun i q1 q2 => b2 i (by omega), fun x hx => r x (by omega)⟩ (EqT.rfl T), ?_, ?_, ?_, ?_, fun x hx => by rw [r 45 (by omega)]; exact a2.worth x hx, by omega, fun x _ => Wr_le 121 x, fun t s ht hs => by rw [r (48 + t) (by omega)]; exact a2.memo t s ht hs⟩
    · show S3.2.2.2 0 = _; rw [b3]; exact a2.who
    · show S3.2.2.2 1 = _; rw [b3]; exact a2.goal
    · show S3.1 61 = _; rw [b2 61 (by omega)]; exact a2.tire
    · show S3.1 60 = _; rw [b2 60 (by omega)]; exact a2.out60
  obtain ⟨S4, c1, c2, c3, c4, c5⟩ := chances_L hl hN 121 1 n (sA S3 (52 + l) 0 1000000) (by omega) (by omega) (by omega) hI3 b4 b5 b7 b8 b9 b11 (fun y hy => by
    rw [show y = 0 by omega, sA_eq]; rfl)
  refine ⟨S4, ?_, ⟨fun i hi => ?_, fun x q1 q2 q3 => ?_, ?_, fun j q0 q1 => ?_, l, by omega, ?_⟩, c5⟩
  · unfold m_X8_reckonChances m_X0_beStep
    simp only [nmE]
    rw [show m_X0_beReach n S 121 = _ from p1]
    simp only [Option.bind_some]
    rw [ckN (by omega) (by omega), clN (by omega), a1]
    simp only [Option.bind_some]
    rw [b1]
    simp only [Option.bind_some]
    rw [ckN (by omega) (by omega), show ∀ x : Option St, ck 0 122 x = x from fun x => rfl, show (0 : Int32).toNatClampNeg = 0 from rfl, b6, show m_X8_reckonChances_L66 n (sA S3 (52 + l) 0 1000000) (nI (if o = 1 then 0 else sB bb lift)) l 1 = _ from c1]
    rfl
  · rw [c2 i (by omega)]
    show S3.1 i = _
    rw [b2 i (by omega), a3 i (by omega), p2.1 i (by omega)]
  · rw [c3 x q2 q3, sA_row q3, b3, a4 x q2, p2.2.1 x q1]
  · rw [c4]
    show S3.2.2.1 = _
    rw [b3, a5, p2.2.2]
  · rw [c4]
    show S3.2.2.2 j = _
    rw [b3, a6 j q0 q1, p2.2.2]
  · rw [c4]
    show S3.2.2.2 0 = _
    rw [b3, a7]
theorem chances9_L {ib ab k l lift round a d f o : Nat} {bb : Nat → Nat} {S T0 : St} (hv : VR ib ab k S T0) (hl : l < k) (hN : Now T0 l lift round a d f o bb) : ∀ D w n T, w + D = 122 → D + 131 ≤ n → T.1 = T0.1 → T.2.2 = T0.2.2 → (∀ r, r ≠ 28 → r ≠ 29 → T.2.1 r = T0.2.1 r) → (∀ y, y < w → T.2.1 29 y = nI (cwN T0 l lift round a d f o bb y)) →
    ∃ T', m_X9_laysChances_L2 n T (nI l) (nI w) = some T' ∧ T'.1 = T0.1 ∧ T'.2.2 = T0.2.2 ∧ (∀ r, r ≠ 28 → r ≠ 29 → T'.2.1 r = T0.2.1 r) ∧ (∀ y, y ≤ 121 → T'.2.1 29 y = nI (cwN T0 l lift round a d f o bb y)) := by
  have hk := hv.1
  intro D
  induction D with
  | zero =>
    intro w n T hw hn t1 t2 t3 hch
    obtain ⟨m, rfl⟩ : ∃ m, n = m + 1 := ⟨n - 1, by omega⟩
    refine ⟨T, ?_, t1, t2, t3, fun y hy => hch y (by omega)⟩
    unfold m_X9_laysChances_L2
    rw [lit32 121, if_pos (by rw [ltN (by omega) (by omega)]; omega)]
  | succ D ih =>
    intro w n T hw hn t1 t2 t3 hch
    obtain ⟨m, rfl⟩ : ∃ m, n = m + 1 := ⟨n - 1, by omega⟩
    have hET : EqT T0 T := ⟨⟨by rw [t1], by rw [t1], by rw [t1], by rw [t1], by rw [t1]⟩, fun a z1 z2 => t3 a (by omega) (by omega), t3 11 (by omega) (by omega), t3 15 (by omega) (by omega), t3 17 (by omega) (by omega)⟩
    unfold m_X9_laysChances_L2
    simp only [nmE]
    rw [lit32 121, if_neg (by rw [ltN (by omega) (by omega)]; omega), ifeqN (by omega) (by omega), ckN (by omega) (by omega), clN (by omega), s1]
    by_cases c : w = 121
    · rw [if_pos c]
      exact ih (w + 1) m (sA T 29 w 0) (by omega) (by omega) t1 t2 (fun r q1 q2 => by rw [sA_row q2]; exact t3 r q1 q2) (fun y hy => by
        by_cases cy : y = w
        · rw [cy, sA_eq]
          unfold cwN
          rw [if_neg (by omega), if_pos c]; rfl
        · rw [sA_ne cy]; exact hch y (by omega))
    · rw [if_neg c]
      obtain ⟨T1, q1, q2, q3, q4⟩ := chanceOf9 (n := m) (w := w) (hv.congrT hET) hl (hN.congr (hET.2.2.1)) (by omega) (by omega)
      rw [q1]
      simp only [Option.bind_some]
      rw [ckN (by omega) (by omega)]
      have eval : pvN T l lift round a d f o bb (Wr w 0) (Wr w) 0 = cwN T0 l lift round a d f o bb w := by
        rw [pvN_eqT hET]
        unfold cwN
        by_cases c0 : w = 0
        · rw [if_pos c0]
          subst c0
          exact pvN_const (c := 1000000) hv hl hN (fun x _ => rfl)
        · rw [if_neg c0, if_neg c, show Wr w 0 = 0 by unfold Wr; rw [if_pos (by omega)]]
      rw [eval]
      exact ih (w + 1) m _ (by omega) (by omega) (q2.trans t1) (q3.trans t2) (fun r z1 z2 => by rw [sA_row z2, q4 r z1]; exact t3 r z1 z2) (fun y hy => by
        by_cases cy : y = w
        · rw [cy, sA_eq]
        · rw [sA_ne cy, q4 29 (by omega)]; exact hch y (by omega))
theorem chances9 {ib ab k l n lift round a d f o : Nat} {bb : Nat → Nat} {S T : St} (hv : VR ib ab k S T) (hl : l < k) (hN : Now T l lift round a d f o bb) (hn : 260 ≤ n) :
    ∃ T', m_X9_laysChances n T (nI l) = some T' ∧ T'.1 = T.1 ∧ T'.2.2 = T.2.2 ∧ (∀ r, r ≠ 28 → r ≠ 29 → T'.2.1 r = T.2.1 r) ∧ (∀ y, y ≤ 121 → T'.2.1 29 y = nI (cwN T l lift round a d f o bb y)) := by
  obtain ⟨T', e1, e2⟩ := chances9_L hv hl hN 122 0 n T (by omega) (by omega) rfl rfl (fun _ _ _ => rfl) (fun y hy => absurd hy (by omega))
  refine ⟨T', ?_, e2⟩
  unfold m_X9_laysChances
  rw [show m_X9_laysChances_L2 n T (nI l) 0 = _ from e1]
  rfl
/-- the relation after chances are laid -/
theorem RelB.chan {S S' T T' : St} {l : Nat} {oF oP : Option St} (h : RelB S oF oP T) (v : FrC l S S') (t1 : T'.1 = T.1) (t2 : T'.2.2 = T.2.2) (t3 : ∀ a, (a < 28 ∨ 30 < a) → T'.2.1 a = T.2.1 a) : RelB S' oF oP T' := by
  obtain ⟨hf, ⟨t, ht, r1, r2, r3⟩, k, hc⟩ := h
  refine ⟨⟨?_, ?_, Or.inr v.2.2.2.2⟩, ⟨t, ht, ?_, ?_, fun j hj => ?_⟩, k, hc.congr ⟨fun i q1 q2 => v.1 i (by omega), fun a ha => v.2.1 a (by omega) (by omega) (by omega)⟩ ⟨⟨by rw [t1], by rw [t1], by rw [t1], by rw [t1], by rw [t1]⟩, fun a q1 q2 => t3 a (by omega), t3 11 (by omega), t3 15 (by omega), t3 17 (by omega)⟩⟩
  · rw [v.2.2.2.1 2 (by omega) (by omega)]; exact hf.1
  · rw [v.2.2.2.1 3 (by omega) (by omega)]; exact hf.2.1
  · rw [v.1 0 (by omega)]; exact r1
  · rw [t1]; exact r2
  · rw [v.2.2.1, t2]; exact r3 j hj
theorem FrC.eqs {l : Nat} {S S' : St} (h : FrC l S S') : EqS S S' := ⟨fun i _ _ => h.1 i (by omega), fun a ha => h.2.1 a (by omega) (by omega) (by omega)⟩
theorem like_L {S T : St} {l : Nat} {c : Nat → Nat} (h8 : ∀ y, y ≤ 121 → S.2.1 (52 + l) y = nI (c y)) (h9 : ∀ y, y ≤ 121 → T.2.1 29 y = nI (c y)) : ∀ D w q n n', w + D = 121 → q ≤ 120 → D + 1 ≤ n → D + 1 ≤ n' → ∃ r, r ≤ 120 ∧ m_X8_likeliest_L27 n S l (nI q) (nI w) = some (nI r) ∧ m_X9_likeliest_L24 n' T (nI q) (nI w) = some (nI r) := by
  intro D
  induction D with
  | zero =>
    intro w q n n' hw hq hn hn'
    obtain ⟨m, rfl⟩ : ∃ m, n = m + 1 := ⟨n - 1, by omega⟩
    obtain ⟨m', rfl⟩ : ∃ m, n' = m + 1 := ⟨n' - 1, by omega⟩
    refine ⟨q, hq, ?_, ?_⟩
    · unfold m_X8_likeliest_L27
      rw [lit32 120, if_pos (by rw [ltN (by omega) (by omega)]; omega)]
    · unfold m_X9_likeliest_L24
      rw [lit32 121, if_pos (by rw [leN (by omega) (by omega)]; omega)]
  | succ D ih =>
    intro w q n n' hw hq hn hn'
    obtain ⟨m, rfl⟩ : ∃ m, n = m + 1 := ⟨n - 1, by omega⟩
    obtain ⟨m', rfl⟩ : ∃ m, n' = m + 1 := ⟨n' - 1, by omega⟩
    unfold m_X8_likeliest_L27 m_X9_likeliest_L24
    rw [lit32 120, if_neg (show ¬ nI 120 < nI w by rw [ltN (by omega) (by omega)]; omega), lit32 121, if_neg (show ¬ nI 121 ≤ nI w by rw [leN (by omega) (by omega)]; omega), s1, s1]
    simp only [ckN (show w < 122 by omega) (show 122 < 2147483648 by omega), ckN (show w + 1 < 122 by omega) (show 122 < 2147483648 by omega), ckN (show q < 122 by omega) (show 122 < 2147483648 by omega), ckN (show q + 1 < 122 by omega) (show 122 < 2147483648 by omega), clN (show w < 2147483648 by omega), clN (show w + 1 < 2147483648 by omega), clN (show q < 2147483648 by omega), clN (show q + 1 < 2147483648 by omega)]
    rw [h8 w (by omega), h8 (w + 1) (by omega), h8 q (by omega), h8 (q + 1) (by omega), h9 w (by omega), h9 (w + 1) (by omega), h9 q (by omega), h9 (q + 1) (by omega)]
    by_cases c' : nI (c w) - nI (c (w + 1)) ≤ nI (c q) - nI (c (q + 1))
    · rw [if_pos c', if_pos c']
      exact ih (w + 1) q m m' (by omega) hq (by omega) (by omega)
    · rw [if_neg c', if_neg c']
      exact ih (w + 1) w m m' (by omega) (by omega) (by omega) (by omega)
/-- likeliest -/
theorem hb_19 (n : Nat) (hn : 400 ≤ n) : HB_19 n RelB := by
  intro S oF oP T a1 hR
  obtain ⟨hf, hro, k, hc⟩ := id hR
  have hv := hc.vr.congrT (EqT.thr T 0)
  have hk := hv.1
  unfold m_X8_likeliest m_X9_likeliest
  simp only [nmE]
  rcases isL hv a1 with ⟨l, hl, rfl, e1, e2⟩ | ⟨e1, e2⟩
  · rw [e1, e2]
    simp only [Option.bind_some, b10, if_false]
    obtain ⟨lift, round, a, d, f, o, bb, hN⟩ := now_of hv hl
    obtain ⟨S1, p1, p2, p3⟩ := chances8 (n := n) hv hl hN (by omega)
    obtain ⟨T1, q1, q2, q3, q4, q5⟩ := chances9 (n := n) hv hl hN (by omega)
    rw [p1, q1]
    simp only [Option.bind_some]
    obtain ⟨r, hr, r1, r2⟩ := like_L p3 q5 120 1 0 n n (by omega) (by omega) (by omega) (by omega)
    rw [ckN (by omega) (by omega), clN (by omega), show m_X8_likeliest_L27 n S1 l 0 1 = _ from r1, show m_X9_likeliest_L24 n T1 0 1 = _ from r2]
    simp only [Option.bind_some]
    rw [s1, ckN (by omega) (by omega), ckN (by omega) (by omega), ckN (by omega) (by omega), ckN (by omega) (by omega), clN (by omega), clN (by omega), show ∀ x : Option (Int32 × St), ck 1 122 x = x from fun x => rfl, show (1 : Int32).toNatClampNeg = 1 from rfl, p3 r (by omega), p3 (r + 1) (by omega), p3 1 (by omega), tellTwo8]
    rw [notes_eq (t := 0) (by omega) rfl]
    simp only [Option.bind_some]
    rw [show ∀ x : Option (Int32 × St), ck 1 122 x = x from fun x => rfl]
    have z29 : ∀ y, y ≤ 121 → (sI T1 1 0).2.1 29 y = nI (cwN (sI T 0 0) l lift round a d f o bb y) := fun y hy => q5 y hy
    rw [z29 r (by omega), z29 (r + 1) (by omega)]
    have z1 : ∀ (x : Int64) (u : Int32), (sI (sJ (sI T1 1 0) 2 0 x) 1 u).2.1 29 1 = nI (cwN (sI T 0 0) l lift round a d f o bb 1) := fun x u => q5 1 (by omega)
    rw [z1, notes_eq (t := 1) (by omega) rfl]
    simp only [Option.bind_some]
    have hrel := (hR.thr 0).chan p2 q2 q3 (fun a ha => q4 a (by omega) (by omega))
    obtain ⟨hf2, _, k2, hc2⟩ := hrel
    refine ⟨nI r, _, _, rfl, rfl, hf2.congr rfl, row2' rfl rfl ?_ ?_, k2, hc2.congr (EqS.told (EqS.rfl S1) 2) ?_⟩
    · exact (two8 S1 _ _).1.trans (two9 (sI T1 1 0) _ _ _).1.symm
    · exact (two8 S1 _ _).2.trans (two9 (sI T1 1 0) _ _ _).2.symm
    · exact EqT.rfl T1
  · rw [e1, e2]
    exact ⟨-1, _, _, rfl, rfl, hR.thr 0⟩
/-! to be ahead of one, of all -/
def ldN (T : St) (a b : Nat) : Nat := if (T.2.1 4 a).toInt * 100 + (T.2.1 5 a).toInt < (T.2.1 4 b).toInt * 100 + (T.2.1 5 b).toInt then 1 else 0
theorem ldN_le (T : St) (a b : Nat) : ldN T a b ≤ 1 := by unfold ldN; split <;> omega
theorem leadsN {ib ab k : Nat} {S T : St} (h : VR ib ab k S T) {a b : Nat} (ha : a < k) (hb : b < k) : m_X3_leadsLike S a b = some (nI (ldN T a b)) ∧ m_X9_isLighter T (nI a) (nI b) = some (nI (ldN T a b)) := by
  have hk := h.1
  rw [leads8 h ha hb, lighter9 (by omega) (by omega) (h.2.2.2.1 a ha).2.2.2.1 (h.2.2.2.1 b hb).2.2.2.1]
  unfold ldN
  split <;> exact ⟨rfl, rfl⟩
theorem beatBy9 {ib ab k : Nat} {S T : St} (h : VR ib ab k S T) {a b x : Nat} (ha : a < k) (hb : b < k) {c : Nat → Nat} (hc : ∀ y, y ≤ 121 → T.2.1 29 y = nI (c y)) (hcl : ∀ y, y ≤ 121 → c y ≤ 1000000) (hx : x ≤ 120) : m_X9_beatBy T (nI a) (nI b) (nI x) = some (nI (if x = 0 then 0 else 1000000 - c (x + ldN T a b))) := by
  have hp := ldN_le T a b
  unfold m_X9_beatBy
  rw [if0N (by omega)]
  by_cases q : x = 0
  · rw [if_pos q, if_pos q]; rfl
  · rw [if_neg q, if_neg q, (leadsN h ha hb).2]
    simp only [Option.bind_some]
    have hfl : m_X9_flag T (nI (ldN T a b)) = some (nI (ldN T a b)) := by
      unfold m_X9_flag
      rcases (by omega : ldN T a b = 0 ∨ ldN T a b = 1) with z | z <;> rw [z] <;> rfl
    rw [hfl]
    simp only [Option.bind_some]
    rw [nI_add, ckN (by omega) (by omega), clN (by omega), hc _ (by omega), lit32 1000000, subN (hcl _ (by omega))]
/-- the chance to be ahead is multiplied -/
def tmN (v c : Nat) : Nat := v * (1000000 - c) / 1000000
theorem tm_le {v c M : Nat} (h : v ≤ M) : tmN v c ≤ M := by
  unfold tmN
  apply Nat.div_le_of_le_mul
  rw [Nat.mul_comm v]
  exact Nat.mul_le_mul (by omega) h
theorem times_L {i p : Nat} {c : Nat → Nat} (hi : i < 6) (hp : p ≤ 1) (hcl : ∀ y, y ≤ 121 → c y ≤ 1000000) {V : Nat → Nat} (hV : ∀ x, V x ≤ 1000000) : ∀ D x n S, x + D = 121 → 1 ≤ x → D + 1 ≤ n → (∀ y, y ≤ 121 → S.2.1 (52 + i) y = nI (c y)) → (∀ y, y < 242 → S.2.1 45 y = nI (if 1 ≤ y ∧ y < x then tmN (V y) (c (y + p)) else V y)) →
    ∃ S', m_X0_timesBeat_L13 n S i (nI p) (nI x) = some S' ∧ S'.1 = S.1 ∧ S'.2.2 = S.2.2 ∧ (∀ a, a ≠ 45 → S'.2.1 a = S.2.1 a) ∧ (∀ y, y < 242 → S'.2.1 45 y = nI (if 1 ≤ y ∧ y < 121 then tmN (V y) (c (y + p)) else V y)) := by
  intro D
  induction D with
  | zero =>
    intro x n S hx h1 hn hc h
    obtain ⟨m, rfl⟩ : ∃ m, n = m + 1 := ⟨n - 1, by omega⟩
    have : x = 121 := by omega
    subst this
    refine ⟨S, ?_, rfl, rfl, fun _ _ => rfl, h⟩
    unfold m_X0_timesBeat_L13
    rw [lit32 120, if_pos (show nI 120 < nI 121 by decide)]
    split <;> rfl
  | succ D ih =>
    intro x n S hx h1 hn hc h
    obtain ⟨m, rfl⟩ : ∃ m, n = m + 1 := ⟨n - 1, by omega⟩
    obtain ⟨S', e1, e2, e3, e4, e5⟩ := ih (x + 1) m (sA S 45 x (nI (tmN (V x) (c (x + p))))) (by omega) (by omega) (by omega) (fun y hy => by rw [sA_row (by omega)]; exact hc y hy) (fun y hy => by
      by_cases q : y = x
      · subst q
        rw [sA_eq, if_pos (by omega)]
      · rw [sA_ne q, h y hy]
        by_cases q2 : 1 ≤ y ∧ y < x
        · rw [if_pos q2, if_pos (by omega)]
        · rw [if_neg q2, if_neg (by omega)])
    refine ⟨S', ?_, e2, e3, fun a ha => (e4 a ha).trans (sA_row ha), e5⟩
    unfold m_X0_timesBeat_L13
    simp only [nmE]
    rw [nI_add, lit32 122, ifleN (by omega) (by omega), if_neg (by omega), lit32 120, ifltN (by omega) (by omega), if_neg (by omega), ckN (by omega) (by omega), ckN (by omega) (by omega), ckN (by omega) (by omega), clN (by omega), clN (by omega), h x (by omega), if_neg (show ¬ (1 ≤ x ∧ x < x) by omega), hc (x + p) (by omega), lit32 1000000, subN (hcl _ (by omega)), nI_l (nI_lt31 (by have := hV x; omega)), nI_l (nI_lt31 (by omega)), lN_mul, show (1000000 : Int64) = lN 1000000 from rfl, s1]
    have hb : V x * (1000000 - c (x + p)) ≤ 1000000 * 1000000 := Nat.mul_le_mul (hV x) (by omega)
    rw [pk_lDiv (by omega) (by omega) (by omega), lN_i]
    exact e1
/-- all of class's goal: only the worth and what it is to be out -/
theorem times8 {i p n : Nat} {c : Nat → Nat} {S : St} (hi : i < 6) (hp : p ≤ 1) (hcl : ∀ y, y ≤ 121 → c y ≤ 1000000) {V : Nat → Nat} (hV : ∀ x, V x ≤ 1000000) (hn : 122 ≤ n) (hc : ∀ y, y ≤ 121 → S.2.1 (52 + i) y = nI (c y)) (h : ∀ y, y < 242 → S.2.1 45 y = nI (V y)) :
    ∃ S', m_X0_timesBeat n S (nI p) i = some S' ∧ S'.1 = S.1 ∧ S'.2.2 = S.2.2 ∧ (∀ a, a ≠ 45 → S'.2.1 a = S.2.1 a) ∧ (∀ y, y < 242 → S'.2.1 45 y = nI (if 1 ≤ y ∧ y < 121 then tmN (V y) (c (y + p)) else V y)) := by
  obtain ⟨S', e1, e2⟩ := times_L hi hp hcl hV 120 1 n S (by omega) (by omega) (by omega) hc (fun y hy => by rw [if_neg (by omega)]; exact h y hy)
  refine ⟨S', ?_, e2⟩
  unfold m_X0_timesBeat
  have : ((if nI p = 0 then (some 0) else (some 1) : Option (Int32))) = some (nI p) := by
    rcases (by omega : p = 0 ∨ p = 1) with z | z <;> subst z <;> rfl
  rw [this]
  simp only [Option.bind_some]
  rw [show m_X0_timesBeat_L13 n S i (nI p) 1 = _ from e1]
  rfl
def Vs (x : Nat) : Nat := if x = 0 then 0 else 1000000
theorem Vs_le (x : Nat) : Vs x ≤ 1000000 := by unfold Vs; split <;> omega
theorem sure8 (S : St) : ∃ S', m_X0_beSure S = some S' ∧ FrG S S' ∧ S'.1 60 = nI 0 ∧ ∀ x, x < 242 → S'.2.1 45 x = nI (Vs x) := by
  refine ⟨sI (sA (sF S 45 (fun _ => 1000000)) 45 0 0) 60 0, rfl, ⟨fun i hi => sI_ne hi, fun a ha => ?_, rfl⟩, rfl, fun x hx => ?_⟩
  · show (sA (sF S 45 (fun _ => 1000000)) 45 0 0).2.1 a = _
    rw [sA_row ha, sF_21, if_neg ha]
  · show (sA (sF S 45 (fun _ => 1000000)) 45 0 0).2.1 45 x = _
    unfold Vs
    by_cases c : x = 0
    · rw [c, sA_eq, if_pos rfl]; rfl
    · rw [sA_ne c, sF_21, if_pos rfl, if_neg c]; rfl
/-- the worth of being ahead of b -/
def Wb (c : Nat → Nat) (p x : Nat) : Nat := if 1 ≤ x ∧ x < 121 then tmN (Vs x) (c (x + p)) else Vs x
theorem Wb_le (c : Nat → Nat) (p x : Nat) : Wb c p x ≤ 1000000 := by
  unfold Wb
  split
  · exact tm_le (Vs_le x)
  · exact Vs_le x
theorem beat_L {ib ab k : Nat} {S T0 : St} (hv : VR ib ab k S T0) {a b : Nat} (ha : a < k) (hb : b < k) {c : Nat → Nat} (hc : ∀ y, y ≤ 121 → T0.2.1 29 y = nI (c y)) (hcl : ∀ y, y ≤ 121 → c y ≤ 1000000) : ∀ D x n T, x + D = 121 → D + 1 ≤ n → T.1 = T0.1 → T.2.2 = T0.2.2 → (∀ r, r ≠ 28 → T.2.1 r = T0.2.1 r) → (∀ y, y < x → T.2.1 28 y = nI (Wb c (ldN T0 a b) y)) →
    ∃ T', m_X9_aimsBeat_L7 n T (nI a) (nI b) (nI x) = some T' ∧ T'.1 = T0.1 ∧ T'.2.2 = T0.2.2 ∧ (∀ r, r ≠ 28 → T'.2.1 r = T0.2.1 r) ∧ (∀ y, y ≤ 120 → T'.2.1 28 y = nI (Wb c (ldN T0 a b) y)) := by
  intro D
  induction D with
  | zero =>
    intro x n T hx hn t1 t2 t3 h
    obtain ⟨m, rfl⟩ : ∃ m, n = m + 1 := ⟨n - 1, by omega⟩
    refine ⟨T, ?_, t1, t2, t3, fun y hy => h y (by omega)⟩
    unfold m_X9_aimsBeat_L7
    rw [lit32 121, if_pos (by rw [leN (by omega) (by omega)]; omega)]
  | succ D ih =>
    intro x n T hx hn t1 t2 t3 h
    obtain ⟨m, rfl⟩ : ∃ m, n = m + 1 := ⟨n - 1, by omega⟩
    have hET : EqT T0 T := ⟨⟨by rw [t1], by rw [t1], by rw [t1], by rw [t1], by rw [t1]⟩, fun a z1 z2 => t3 a (by omega), t3 11 (by omega), t3 15 (by omega), t3 17 (by omega)⟩
    have hld : ldN T a b = ldN T0 a b := by unfold ldN; rw [t3 4 (by omega), t3 5 (by omega)]
    have eval : (if x = 0 then 0 else 1000000 - c (x + ldN T a b)) = Wb c (ldN T0 a b) x := by
      unfold Wb Vs tmN
      rw [hld]
      by_cases q : x = 0
      · rw [if_pos q, if_neg (by omega), if_pos q]
      · rw [if_neg q, if_pos (by omega), if_neg q]
        omega
    unfold m_X9_aimsBeat_L7
    simp only [nmE]
    rw [lit32 121, if_neg (by rw [leN (by omega) (by omega)]; omega), beatBy9 (hv.congrT hET) ha hb (c := c) (fun y hy => by rw [t3 29 (by omega)]; exact hc y hy) hcl (by omega), eval]
    simp only [Option.bind_some]
    rw [ckN (by omega) (by omega), clN (by omega), s1]
    exact ih (x + 1) m (sA T 28 x (nI (Wb c (ldN T0 a b) x))) (by omega) (by omega) t1 t2 (fun r q => by rw [sA_row q]; exact t3 r q) (fun y hy => by
      by_cases cy : y = x
      · subst cy; exact sA_eq
      · rw [sA_ne cy]; exact h y (by omega))
/-- both aim to be ahead of b -/
theorem aimBeat_same {k n a b : Nat} {S T : St} (hv : VR 30 25 k S T) (ha : a < k) (hb : b < k) (hn : 400 ≤ n) :
    ∃ (S' T' : St) (W : Nat → Nat), m_X8_aimToBeat n S (nI a) (nI b) = some S' ∧ m_X9_aimsBeat n T (nI a) (nI b) = some T' ∧ FrC b S S' ∧ S'.1 60 = nI 0 ∧ (∀ x, x < 242 → S'.2.1 45 x = nI (W x)) ∧ (∀ x, W x ≤ 1000000) ∧ W 0 = 0 ∧ T'.1 = T.1 ∧ T'.2.2 = T.2.2 ∧ (∀ r, r ≠ 28 → r ≠ 29 → T'.2.1 r = T.2.1 r) ∧ (∀ x, x ≤ 120 → T'.2.1 28 x = nI (W x)) := by
  have hk := hv.1
  obtain ⟨lift, round, a', d, f, o, bb, hN⟩ := now_of hv hb
  obtain ⟨S1, p1, p2, p3⟩ := chances8 (n := n) hv hb hN (by omega)
  obtain ⟨T1, q1, q2, q3, q4, q5⟩ := chances9 (n := n) hv hb hN (by omega)
  obtain ⟨S2, s1', s2', s3', s4'⟩ := sure8 S1
  have hET : EqT T T1 := ⟨⟨by rw [q2], by rw [q2], by rw [q2], by rw [q2], by rw [q2]⟩, fun a z1 z2 => q4 a (by omega) (by omega), q4 11 (by omega) (by omega), q4 15 (by omega) (by omega), q4 17 (by omega) (by omega)⟩
  have hld : ldN T1 a b = ldN T a b := by unfold ldN; rw [q4 4 (by omega) (by omega), q4 5 (by omega) (by omega)]
  have hcl : ∀ y, y ≤ 121 → cwN T b lift round a' d f o bb y ≤ 1000000 := fun y _ => cwN_le hv hb hN y
  have hv2 : VR 30 25 k S2 T := hv.congr (p2.eqs.trans s2'.eqs) (EqT.rfl T)
  obtain ⟨S3, t1, t2, t3, t4, t5⟩ := times8 (n := n) (S := S2) (c := cwN T b lift round a' d f o bb) (p := ldN T a b) (V := Vs) (show b < 6 by omega) (ldN_le T a b) hcl Vs_le (by omega) (fun y hy => by rw [s2'.2.1 (52 + b) (by omega)]; exact p3 y hy) s4'
  obtain ⟨T2, u1, u2, u3, u4, u5⟩ := beat_L (hv.congrT hET) ha hb q5 hcl 121 0 n T1 (by omega) (by omega) rfl rfl (fun _ _ => rfl) (fun y hy => absurd hy (by omega))
  rw [hld] at u5
  refine ⟨S3, T2, Wb (cwN T b lift round a' d f o bb) (ldN T a b), ?_, ?_, ⟨fun i hi => ?_, fun r z1 z2 z3 => ?_, ?_, fun j z0 z1 => ?_, ?_⟩, ?_, t5, Wb_le _ _, rfl, u2.trans q2, u3.trans q3, fun r z1 z2 => (u4 r z1).trans (q4 r z1 z2), u5⟩
  · unfold m_X8_aimToBeat
    rw [p1]
    simp only [Option.bind_some]
    rw [s1']
    simp only [Option.bind_some]
    rw [ckN (by omega) (by omega), ckN (by omega) (by omega), clN (by omega), clN (by omega), (leadsN hv2 ha hb).1]
    simp only [Option.bind_some]
    rw [ckN (by omega) (by omega), t1]
    rfl
  · unfold m_X9_aimsBeat
    rw [q1]
    simp only [Option.bind_some]
    rw [show m_X9_aimsBeat_L7 n T1 (nI a) (nI b) 0 = _ from u1]
    rfl
  · rw [t2, s2'.1 i (by omega), p2.1 i hi]
  · rw [t4 r z1, s2'.2.1 r z1, p2.2.1 r z1 z2 z3]
  · rw [t3, s2'.2.2]; exact p2.2.2.1
  · rw [t3, s2'.2.2]; exact p2.2.2.2.1 j z0 z1
  · rw [t3, s2'.2.2]; exact p2.2.2.2.2
  · rw [t2]; exact s3'
theorem RelB.plan2 {S S1 S2 T T' : St} {l : Nat} {oF oP : Option St} (h : RelB S oF oP T) (g : FrC l S S1) (v : FrV S1 S2) (t1 : T'.1 = T.1) (t2 : T'.2.2 = T.2.2) (t3 : ∀ a, (a < 28 ∨ 30 < a) → T'.2.1 a = T.2.1 a) : RelB S2 oF oP T' := by
  have h1 := h.chan (T' := T') g t1 t2 t3
  exact h1.plan ⟨fun _ _ => rfl, fun _ _ => rfl, rfl⟩ v rfl rfl (fun _ _ => rfl)
/-- beats -/
theorem hb_20 (n : Nat) (hn : 500 ≤ n) : HB_20 n RelB := by
  intro S oF oP T a1 a2 hR
  obtain ⟨hf, hro, k, hc⟩ := id hR
  have hv := hc.vr.congrT (EqT.thr T 0)
  have hk := hv.1
  unfold m_X8_beats m_X9_beats
  simp only [nmE]
  rcases isL hv a1 with ⟨l, hl, rfl, e1, e2⟩ | ⟨e1, e2⟩
  · rw [e1, e2]
    simp only [Option.bind_some, b10, if_false]
    rcases isL hv a2 with ⟨m, hm, rfl, f1, f2⟩ | ⟨f1, f2⟩
    · rw [f1, f2]
      simp only [Option.bind_some, b10, if_false]
      rw [ifeqN (by omega) (by omega), ifeqN (by omega) (by omega)]
      by_cases clm : l = m
      · rw [if_pos clm, if_pos clm]; exact ⟨-1, _, _, rfl, rfl, hR.thr 0⟩
      rw [if_neg clm, if_neg clm]
      obtain ⟨S1, T1, W, p1, p2, p3, p4, p5, p6, p7, p8, p9, p10, p11⟩ := aimBeat_same (n := n) hv hl hm (by omega)
      have hET : EqT (sI T 0 0) T1 := ⟨⟨by rw [p8], by rw [p8], by rw [p8], by rw [p8], by rw [p8]⟩, fun a z1 z2 => p10 a (by omega) (by omega), p10 11 (by omega) (by omega), p10 15 (by omega) (by omega), p10 17 (by omega) (by omega)⟩
      have hv1 : VR 30 25 k S1 T1 := hv.congr p3.eqs hET
      obtain ⟨lift, round, a, d, f, o, bb, hN⟩ := now_of hv1 hl
      obtain ⟨S2, c1, c2⟩ := byPlan8 (n := n) (out := 0) (W := W) hv1 hl hN (by omega) p4 p5 (by omega) (fun x _ => p6 x)
      have r := planNow9 (n := n) (W := W) hv1 hl hN (by omega) p11 (fun x _ => p6 x)
      rw [p7] at r
      rw [p1, p2]
      simp only [Option.bind_some]
      rw [c1, r]
      exact ⟨_, _, _, rfl, rfl, (hR.thr 0).plan2 p3 c2 p8 p9 (fun a ha => p10 a (by omega) (by omega))⟩
    · rw [f1, f2]
      exact ⟨-1, _, _, rfl, rfl, hR.thr 0⟩
  · rw [e1, e2]
    exact ⟨-1, _, _, rfl, rfl, hR.thr 0⟩
