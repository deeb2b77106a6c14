/-! ===== layer B: tries, plays, often ===== -/
theorem core_of {k : Nat} {S T : St} (hv : VR 30 25 k S T) (ht : TapeR S T) (hl : LogR S T) : CoreR k S T := ⟨hv.1, hv.2.1, hv.2.2.1, ht, hv.2.2.2.1, hv.2.2.2.2.1, hv.2.2.2.2.2.1, hv.2.2.2.2.2.2, hl⟩
theorem RefR.congr {S S' : St} {oF oP : Option St} (h : RefR S oF oP) (e : S'.2.2.2 = S.2.2.2) : RefR S' oF oP := by
  unfold RefR
  rw [e]
  exact h
theorem row2' {S T : St} (h0 : S.1 0 = nI 2) (h1 : T.1 1 = nI 2) (e0 : S.2.2.1 58 0 = T.2.2.1 2 0) (e1 : S.2.2.1 58 1 = T.2.2.1 2 1) : RowR S T := by
  refine ⟨2, by omega, h0, h1, fun j hj => ?_⟩
  rcases (by omega : j = 0 ∨ j = 1) with rfl | rfl
  · exact e0
  · exact e1
theorem two8 (S : St) (a b : Int64) : (sJ (sJ S 58 0 a) 58 1 b).2.2.1 58 0 = a ∧ (sJ (sJ S 58 0 a) 58 1 b).2.2.1 58 1 = b := by
  refine ⟨?_, ?_⟩
  · rw [sJ_221, if_pos rfl, if_neg (by omega), sJ_221, if_pos rfl, if_pos rfl]
  · rw [sJ_221, if_pos rfl, if_pos rfl]
theorem two9 (T : St) (a b : Int64) (u : Int32) : (sJ (sI (sJ T 2 0 a) 1 u) 2 1 b).2.2.1 2 0 = a ∧ (sJ (sI (sJ T 2 0 a) 1 u) 2 1 b).2.2.1 2 1 = b := by
  refine ⟨?_, ?_⟩
  · rw [sJ_221, if_pos rfl, if_neg (by omega)]
    show (sJ T 2 0 a).2.2.1 2 0 = a
    rw [sJ_221, if_pos rfl, if_pos rfl]
  · rw [sJ_221, if_pos rfl, if_pos rfl]
/-- tries -/
theorem hb_12 (n : Nat) (hn : 100 ≤ n) : HB_12 n RelB := by
  intro S oF oP T a1 hR hp01
  obtain ⟨hf, hro, k, hc⟩ := id hR
  have hv := hc.vr.congrT (EqT.thr T 0)
  have hk := hv.1
  unfold m_X8_tries m_X9_tries
  simp only [nmE]
  obtain ⟨r, h1, h2, h3⟩ := called_same hv (n := n) (n' := n) (by omega) (by omega)
  rw [h1, h2]
  simp only [Option.bind_some]
  rcases h3 with ⟨rfl, _⟩ | ⟨l, hl, rfl, hw, _⟩
  · exact ⟨-2, _, _, rfl, rfl, hR.thr 0⟩
  · rw [if_pos (show (0 : Int32) ≤ nI l by rw [show (0 : Int32) = nI 0 from rfl, leN (by omega) (by omega)]; omega), if_neg (nI_ne_m1 (by omega)), ckN (by omega) (by omega), clN (by omega), of0 (by omega)]
    simp only [Option.bind_some]
    obtain ⟨S1, T1, e1, e2, e3, e4, e5, e6, e7, e8, e9, e10, e11⟩ := take_same (n := n) hp01 (show 30 ≤ 30 by omega) (show 25 ≤ 25 by omega) hv hl hw
    rw [e1, e2]
    simp only [Option.bind_some]
    rw [ckN (by omega) (by omega), tellTwo8]
    simp only [Option.bind_some]
    have ea : S.2.1 26 l = mt (sI T 0 0) l 0 := (hv.cell hl).1
    rw [ea]
    have hE : EqS S1 (sI (sJ (sJ S1 58 0 (mt (sI T 0 0) l 0).toInt64) 58 1 (S1.2.1 26 l).toInt64) 0 2) := EqS.told (EqS.rfl S1) 2
    obtain ⟨S3, T2, f1, f2, f3, f4, f5, f6, f7, f8, f9⟩ := goOn_both (n := n) (n' := n) (show 30 ≤ 30 by omega) (show 25 ≤ 25 by omega) (e3.congr hE (EqT.rfl T1)) (by omega) (by omega)
    rw [f1, f2]
    simp only [Option.bind_some]
    rw [notes_eq (t := 0) (by omega) rfl]
    simp only [Option.bind_some]
    rw [notes_eq (t := 1) (by omega) rfl]
    simp only [Option.bind_some]
    have hTn : EqT T2 (sI (sJ (sI (sJ (sI T2 1 0) 2 0 (mt (sI T 0 0) l 0).toInt64) 1 (nI (0 + 1))) 2 1 ((sI (sJ (sI T2 1 0) 2 0 (mt (sI T 0 0) l 0).toInt64) 1 (nI (0 + 1))).1 16).toInt64) 1 (nI (1 + 1))) := EqT.rfl T2
    have e16 : (sI (sJ (sI T2 1 0) 2 0 (mt (sI T 0 0) l 0).toInt64) 1 (nI (0 + 1))).1 16 = S1.2.1 26 l := by
      show T2.1 16 = _
      rw [f6]; exact e9
    rw [e16] at hTn ⊢
    refine ⟨_, S3, _, rfl, rfl, hf.congr ?_, row2' ?_ rfl ?_ ?_, k, ?_⟩
    · rw [f4.2.2]
      show S1.2.2.2 = _
      rw [e4.2.2]
    · rw [f4.1 0 (by omega)]; rfl
    · rw [f4.2.2]
      exact (two8 S1 _ _).1.trans (two9 (sI T2 1 0) _ _ _).1.symm
    · rw [f4.2.2]
      exact (two8 S1 _ _).2.trans (two9 (sI T2 1 0) _ _ _).2.symm
    · refine core_of (f3.congrT hTn) ?_ ⟨?_, ?_⟩
      · exact hc.2.2.2.1.congr ((f4.1 1 (by omega)).trans (e4.1 1 (by omega))) ((f4.2.1 2 (by omega)).trans (e4.2.1 2 (by omega))) ((f5.1 18 (by omega) (by omega) (by omega) (by omega)).trans (e5.1 18 (by omega) (by omega) (by omega) (by omega))) ((f5.2.1 17 (by omega) (by omega)).trans (e5.2.1 17 (by omega) (by omega)))
      · intro i hi
        show S3.2.1 (25 + 8) i = T2.2.1 15 i
        rw [f8, f7]
        have hi' : (i : Int) < 4 * (T2.1 13).toInt := hi
        rw [f6] at hi'
        exact e6 hc.2.2.2.2.2.2.2.2.1 i hi'
      · exact f9 (e7 hc.2.2.2.2.2.2.2.2.2)
theorem od_rfl (T : St) (v : Int32) (l t : Nat) (x f : Int32) : od (sI T 39 v) l t x f = od T l t x f := rfl
theorem oddsNow8 {ib ab k l lift a : Nat} {S T : St} (hv : VR ib ab k S T) (hl : l < k) (h0 : T.2.1 11 0 = nI lift) (hlift : lift < 3) (ea : mt T l 0 = nI a) (ha1 : 1 ≤ a) (ha : a ≤ 40) : m_X4_oddsNow ib ab S (nI l) = some (od T l lift (nI a) (mt T l 4)) := by
  have hk := hv.1
  unfold m_X4_oddsNow
  rw [ckN (by omega) (by omega), ckN (by omega) (by omega), ckN (by omega) (by omega), clN (by omega), hv.lift, h0, (hv.cell hl).1, ea, odds8 hv hl hlift ha1 ha, (hv.cell hl).2.2.2.2.1, hv.tire, Int32.mul_comm]
  rfl
theorem draw_same {ib ab k : Nat} (hib : 30 ≤ ib) (hab : 25 ≤ ab) : ∀ d i n n' S T r e c, VR ib ab k S T → T.1 13 = nI c → c + d = 54 → i ≤ c → isCalled T k r → d + 60 ≤ n → d + 60 ≤ n' →
    ∃ S' T' c', c ≤ c' ∧ c' ≤ 54 ∧ m_X4_drawOn_L4 ib ab n S (T.1 39) (nI i) = some (T'.1 39, S') ∧ m_X9_playsOn_L7 n' T (nI e) r = some (T', nI (e + (c' - c))) ∧ VR ib ab k S' T' ∧ FrM ib ab S S' ∧ FrT T T' ∧ T'.1 13 = nI c' ∧ (LogP ab S T → LogP ab S' T') ∧ (BitP ab S → BitP ab S') := by
  intro d
  induction d with
  | zero =>
    intro i n n' S T r e c hv ec hd hi hr hn hn'
    obtain ⟨m, rfl⟩ : ∃ m, n = m + 1 := ⟨n - 1, by omega⟩
    obtain ⟨m', rfl⟩ : ∃ m, n' = m + 1 := ⟨n' - 1, by omega⟩
    have hk := hv.1
    rcases id hr with ⟨rfl, _⟩ | ⟨l, hl, rfl, hw, _⟩
    · refine ⟨S, T, c, by omega, by omega, ?_, ?_, hv, FrM.rfl S, FrT.rfl T, ec, fun h => h, fun h => h⟩
      · unfold m_X4_drawOn_L4
        obtain ⟨r', q1, q2, q3⟩ := called_same hv (n := m) (n' := m') (by omega) (by omega)
        rw [q1, isCalled_uniq hv q3 hr]
        simp only [Option.bind_some]
        rw [if_neg (show ¬ (0 : Int32) ≤ -1 by decide)]
        split <;> rfl
      · unfold m_X9_playsOn_L7
        rw [if_pos rfl, Nat.sub_self, Nat.add_zero]
    · exfalso
      obtain ⟨S1, T1, e1, e2, e3, e4, e5, e6, e7, e8, e9, e10, e11⟩ := take_same (n := m) (p := 0) (Or.inl rfl) hib hab hv hl hw
      rw [ec, tiN (by omega)] at e11
      omega
  | succ d ih =>
    intro i n n' S T r e c hv ec hd hi hr hn hn'
    obtain ⟨m, rfl⟩ : ∃ m, n = m + 1 := ⟨n - 1, by omega⟩
    obtain ⟨m', rfl⟩ : ∃ m, n' = m + 1 := ⟨n' - 1, by omega⟩
    have hk := hv.1
    obtain ⟨r', q1, q2, q3⟩ := called_same hv (n := m) (n' := m') (by omega) (by omega)
    have : r' = r := isCalled_uniq hv q3 hr
    subst this
    rcases id hr with ⟨rfl, _⟩ | ⟨l, hl, rfl, hw, _⟩
    · refine ⟨S, T, c, by omega, by omega, ?_, ?_, hv, FrM.rfl S, FrT.rfl T, ec, fun h => h, fun h => h⟩
      · unfold m_X4_drawOn_L4
        rw [q1]
        simp only [Option.bind_some]
        rw [if_neg (show ¬ (0 : Int32) ≤ -1 by decide)]
        split <;> rfl
      · unfold m_X9_playsOn_L7
        rw [if_pos rfl, Nat.sub_self, Nat.add_zero]
    · obtain ⟨lift, round, done, hj⟩ := hv.2.2.2.2.2.2.at
      have h0 : T.2.1 11 0 = nI lift := hj.2.2.1
      have hne := wt_ne hw
      have hlift : lift < 3 := by
        have := hj.1
        rcases Nat.lt_or_ge lift 3 with q | q
        · exact q
        · exact absurd ((hv.rt.2.2 l hl).2.2 (by rw [h0, show lift = 3 by omega]; rfl)) hne
      obtain ⟨a, ha, ea⟩ := (hv.own hl).1.nat (n := 40)
      have ha1 : 1 ≤ a := by
        rcases Nat.lt_or_ge 0 a with q | q
        · exact q
        · exfalso; apply hne; rw [ea, show a = 0 by omega]; rfl
      obtain ⟨sd, hsd⟩ : ∃ sd, T.1 39 * 1103515245 + 12345 = sd := ⟨_, rfl⟩
      have hvd : VR ib ab k S (sI T 39 sd) := hv.congrT (EqT.rfl T)
      obtain ⟨p, hp01, hp⟩ : ∃ p : Int32, (p = 0 ∨ p = 1) ∧ (if od T l lift (nI a) (mt T l 4) ≤ irm (usr sd 16) 1000 then (some 0) else (some 1) : Option Int32) = some p := by
        split
        · exact ⟨0, Or.inl rfl, rfl⟩
        · exact ⟨1, Or.inr rfl, rfl⟩
      obtain ⟨S1, T1, e1, e2, e3, e4, e5, e6, e7, e8, e9, e10, e11⟩ := take_same (n := m') hp01 hib hab hvd hl hw
      obtain ⟨S2, T2, f1, f2, f3, f4, f5, f6, f7, f8, f9⟩ := goOn_both (n := m) (n' := m') hib hab e3 (by omega) (by omega)
      have ec2 : T2.1 13 = nI (c + 1) := by
        rw [f6, eq32, e8, show (sI T 39 sd).1 13 = nI c from ec, tiN (by omega), tiN (by omega)]
        omega
      obtain ⟨r2, u1, u2, u3⟩ := called_same f3 (n := m) (n' := m') (by omega) (by omega)
      obtain ⟨S', T', c', g1, g2, g3, g4, g5, g6, g7, g8, g9, g10⟩ := ih (i + 1) m m' S2 T2 r2 (e + 1) (c + 1) f3 ec2 (by omega) (by omega) u3 (by omega) (by omega)
      have e39 : T2.1 39 = sd := by rw [f6, e10]; rfl
      have hD : FrT T (sI T 39 sd) := ⟨fun i _ _ _ q => sI_ne q, fun _ _ _ => rfl, rfl, fun _ _ => rfl, Int.le_refl _, fun _ _ => rfl⟩
      refine ⟨S', T', c', by omega, g2, ?_, ?_, g5, e4.trans (f4.trans g6), hD.trans (e5.trans (f5.trans g7)), g8, ?_, fun h => g10 (f9 (e7 h))⟩
      · unfold m_X4_drawOn_L4
        rw [hsd, lit32 54, ifleN (by omega) (by omega), if_neg (show ¬ 54 ≤ i by omega), q1]
        simp only [Option.bind_some]
        rw [if_pos (show (0 : Int32) ≤ nI l by rw [show (0 : Int32) = nI 0 from rfl, leN (by omega) (by omega)]; omega), oddsNow8 hv hl h0 hlift ea ha1 ha]
        simp only [Option.bind_some]
        rw [hp]
        simp only [Option.bind_some]
        rw [e1]
        simp only [Option.bind_some]
        rw [f1]
        simp only [Option.bind_some]
        rw [s1, ← e39]
        exact g3
      · unfold m_X9_playsOn_L7 m_X9_draw
        simp only [nmE]
        rw [hsd, if_neg (nI_ne_m1 (by omega))]
        rw [show ∀ x : Option (Int32 × St), ckd 1000 x = x from fun x => rfl]
        simp only [Option.bind_some]
        rw [show ∀ x : Option (St × Int32), ck 0 63 x = x from fun x => rfl, of0 (by omega), of4 (by omega)]
        simp only [Option.bind_some]
        rw [show mt (sI T 39 sd) l 0 = nI a from ea, show (sI T 39 sd).2.1 11 ((0 : Int32).toNatClampNeg) = nI lift from h0, odds9 hvd hl hlift (by omega)]
        simp only [Option.bind_some]
        rw [show (sI T 39 sd).1 39 = sd from rfl, od_rfl, show mt (sI T 39 sd) l 4 = mt T l 4 from rfl, hp]
        simp only [Option.bind_some]
        rw [e2, f2]
        simp only [Option.bind_some]
        rw [u2]
        simp only [Option.bind_some]
        rw [s1, g4, show e + 1 + (c' - (c + 1)) = e + (c' - c) by omega]
      · intro h
        apply g9
        intro i hi
        rw [f8, f7]
        rw [f6] at hi
        exact e6 h i hi
theorem draw_both {ib ab k n n' c : Nat} {S T : St} (hib : 30 ≤ ib) (hab : 25 ≤ ab) (hv : VR ib ab k S T) (ec : T.1 13 = nI c) (hc : c ≤ 54) (hn : 130 ≤ n) (hn' : 130 ≤ n') :
    ∃ S' T' c', c ≤ c' ∧ c' ≤ 54 ∧ m_X4_drawOn ib ab n S (T.1 39) = some (T'.1 39, S') ∧ m_X9_playsOn n' T = some (nI (c' - c), T') ∧ VR ib ab k S' T' ∧ FrM ib ab S S' ∧ FrT T T' ∧ T'.1 13 = nI c' ∧ (LogP ab S T → LogP ab S' T') ∧ (BitP ab S → BitP ab S') := by
  obtain ⟨r, u1, u2, u3⟩ := called_same hv (n := n) (n' := n') (by omega) (by omega)
  obtain ⟨S', T', c', g1, g2, g3, g4, g5⟩ := draw_same hib hab (54 - c) 0 n n' S T r 0 c hv ec (by omega) (by omega) u3 (by omega) (by omega)
  refine ⟨S', T', c', g1, g2, g3, ?_, g5⟩
  unfold m_X9_playsOn
  rw [u2]
  simp only [Option.bind_some]
  rw [show m_X9_playsOn_L7 n' T 0 r = _ from g4]
  simp only [Option.bind_some, Nat.zero_add]
/-- plays -/
theorem hb_32 (n : Nat) (hn : 200 ≤ n) : HB_32 n RelB := by
  intro S oF oP T a1 hR
  obtain ⟨hf, hro, k, hc⟩ := id hR
  have hv := hc.vr.congrT (EqT.thr T 0)
  have hk := hv.1
  unfold m_X8_plays m_X9_plays
  simp only [nmE]
  obtain ⟨r, h1, h2, h3⟩ := called_same hv (n := n) (n' := n) (by omega) (by omega)
  rw [h1, h2]
  simp only [Option.bind_some]
  rcases h3 with ⟨rfl, _⟩ | ⟨l, hl, rfl, hw, _⟩
  · exact ⟨-2, _, _, rfl, rfl, hR.thr 0⟩
  · rw [if_pos (show (0 : Int32) ≤ nI l by rw [show (0 : Int32) = nI 0 from rfl, leN (by omega) (by omega)]; omega), if_neg (nI_ne_m1 (by omega))]
    obtain ⟨lift, round, done, hj⟩ := hv.2.2.2.2.2.2.at
    obtain ⟨c, hc54, ec⟩ := hj.2.2.2.2.2.2.1.nat (n := 54)
    have hv2 : VR 30 25 k S (sI (sI T 0 0) 39 a1) := hv.congrT (EqT.rfl _)
    obtain ⟨S', T', c', g1, g2, g3, g4, g5, g6, g7, g8, g9, g10⟩ := draw_both (n := n) (n' := n) (show 30 ≤ 30 by omega) (show 25 ≤ 25 by omega) hv2 ec hc54 (by omega) (by omega)
    rw [show m_X4_drawOn 30 25 n S a1 = _ from g3, g4]
    simp only [Option.bind_some]
    obtain ⟨S2, T2, p1, p2, p3, p4, p5, p6⟩ := tellPlaces_same g5 (n := n) (n' := n) (by omega) (by omega)
    rw [p1, p2]
    simp only [Option.bind_some]
    have e35 : S2.1 35 = nI c' := by rw [p3.1 35 (by omega) (by omega)]; exact g5.2.2.2.2.2.1.2.2.2.2.2.1.trans g8
    have e35' : S.1 35 = nI c := hv.2.2.2.2.2.1.2.2.2.2.2.1.trans ec
    rw [e35, e35', subN g1]
    refine ⟨_, S2, T2, rfl, rfl, ⟨?_, ?_, ?_⟩, p6, k, ?_⟩
    · rw [p4, g6.2.2]; exact hf.1
    · rw [p4, g6.2.2]; exact hf.2.1
    · rw [p4, g6.2.2]; exact hf.2.2
    · refine CoreR.congr (core_of g5 ?_ ⟨?_, ?_⟩) p3 p5
      · exact hc.2.2.2.1.congr (g6.1 1 (by omega)) (g6.2.1 2 (by omega)) (g7.1 18 (by omega) (by omega) (by omega) (by omega)) (g7.2.1 17 (by omega) (by omega))
      · exact g9 hc.2.2.2.2.2.2.2.2.1
      · exact g10 hc.2.2.2.2.2.2.2.2.2
/-! the meet is copied -/
theorem copy58_L : ∀ d i n S, i + d = 6 → d + 1 ≤ n → BitP 25 S → ∃ S', m_X4_copy_L58 n S (nI i) = some S' ∧ S'.1 = S.1 ∧ S'.2.2 = S.2.2 ∧ (∀ a, a ≤ 34 → S'.2.1 a = S.2.1 a) ∧ S'.2.1 39 = S.2.1 39 ∧ (∀ j, i ≤ j → j < 6 → S'.2.1 35 j = S.2.1 26 j ∧ S'.2.1 36 j = S.2.1 27 j ∧ S'.2.1 37 j = S.2.1 28 j ∧ S'.2.1 38 j = S.2.1 29 j ∧ S'.2.1 40 j = S.2.1 31 j ∧ S'.2.1 41 j = S.2.1 32 j) ∧ (∀ j, j < i → S'.2.1 35 j = S.2.1 35 j ∧ S'.2.1 36 j = S.2.1 36 j ∧ S'.2.1 37 j = S.2.1 37 j ∧ S'.2.1 38 j = S.2.1 38 j ∧ S'.2.1 40 j = S.2.1 40 j ∧ S'.2.1 41 j = S.2.1 41 j) := by
  intro d
  induction d with
  | zero =>
    intro i n S hi hn hb
    obtain ⟨m, rfl⟩ : ∃ m, n = m + 1 := ⟨n - 1, by omega⟩
    refine ⟨S, ?_, rfl, rfl, fun _ _ => rfl, rfl, fun j h1 h2 => absurd h1 (by omega), fun _ _ => ⟨rfl, rfl, rfl, rfl, rfl, rfl⟩⟩
    unfold m_X4_copy_L58
    rw [lit32 6, if_pos (by rw [leN (by omega) (by omega)]; omega)]
  | succ d ih =>
    intro i n S hi hn hb
    obtain ⟨m, rfl⟩ : ∃ m, n = m + 1 := ⟨n - 1, by omega⟩
    have kb : ∀ (v : Int32) (x : Option St), (v = 0 ∨ v = 1) → ckb v x = x := fun v x h => by
      rcases h with h | h <;> subst h <;> rfl
    let S1 : St := sA (sA (sA (sA (sA (sA S 35 i (S.2.1 26 i)) 36 i (S.2.1 27 i)) 37 i (S.2.1 28 i)) 38 i (S.2.1 29 i)) 40 i (S.2.1 31 i)) 41 i (S.2.1 32 i)
    have low : ∀ a, a ≤ 34 ∨ a = 39 → S1.2.1 a = S.2.1 a := fun a ha => by
      show (sA (sA (sA (sA (sA (sA S 35 i (S.2.1 26 i)) 36 i (S.2.1 27 i)) 37 i (S.2.1 28 i)) 38 i (S.2.1 29 i)) 40 i (S.2.1 31 i)) 41 i (S.2.1 32 i)).2.1 a = _
      simp (disch := omega) only [sA_row]
    have up : ∀ j, S1.2.1 35 j = (if j = i then S.2.1 26 i else S.2.1 35 j) ∧ S1.2.1 36 j = (if j = i then S.2.1 27 i else S.2.1 36 j) ∧ S1.2.1 37 j = (if j = i then S.2.1 28 i else S.2.1 37 j) ∧ S1.2.1 38 j = (if j = i then S.2.1 29 i else S.2.1 38 j) ∧ S1.2.1 40 j = (if j = i then S.2.1 31 i else S.2.1 40 j) ∧ S1.2.1 41 j = (if j = i then S.2.1 32 i else S.2.1 41 j) := fun j => by
      refine ⟨?_, ?_, ?_, ?_, ?_, ?_⟩
      all_goals
        show (sA (sA (sA (sA (sA (sA S 35 i (S.2.1 26 i)) 36 i (S.2.1 27 i)) 37 i (S.2.1 28 i)) 38 i (S.2.1 29 i)) 40 i (S.2.1 31 i)) 41 i (S.2.1 32 i)).2.1 _ j = _
        try simp (disch := omega) only [sA_row]
        rw [sA_21, if_pos rfl]
        try simp (disch := omega) only [sA_row]
    have hb1 : BitP 25 S1 := fun j hj => by
      rw [low (25 + 2) (by omega), low (25 + 4) (by omega)]; exact hb j hj
    obtain ⟨S', e1, e2, e3, e4, e5, e6, e7⟩ := ih (i + 1) m S1 (by omega) (by omega) hb1
    refine ⟨S', ?_, e2, e3, fun a ha => (e4 a ha).trans (low a (Or.inl ha)), e5.trans (low 39 (Or.inr rfl)), ?_, ?_⟩
    · unfold m_X4_copy_L58
      simp only [nmE]
      rw [lit32 6, if_neg (by rw [leN (by omega) (by omega)]; omega)]
      simp only [ckN (show i < 6 by omega) (show 6 < 2147483648 by omega), clN (show i < 2147483648 by omega)]
      simp (disch := omega) only [sA_row]
      rw [kb (S.2.1 27 i) _ (hb i (by omega)).1, kb (S.2.1 29 i) _ (hb i (by omega)).2, s1]
      exact e1
    · intro j h1 h2
      by_cases c : j = i
      · subst c
        obtain ⟨x1, x2, x3, x4, x5, x6⟩ := e7 j (by omega)
        obtain ⟨y1, y2, y3, y4, y5, y6⟩ := up j
        rw [if_pos rfl] at y1 y2 y3 y4 y5 y6
        exact ⟨x1.trans y1, x2.trans y2, x3.trans y3, x4.trans y4, x5.trans y5, x6.trans y6⟩
      · obtain ⟨x1, x2, x3, x4, x5, x6⟩ := e6 j (by omega) h2
        rw [low 26 (by omega)] at x1
        rw [low 27 (by omega)] at x2
        rw [low 28 (by omega)] at x3
        rw [low 29 (by omega)] at x4
        rw [low 31 (by omega)] at x5
        rw [low 32 (by omega)] at x6
        exact ⟨x1, x2, x3, x4, x5, x6⟩
    · intro j h1
      obtain ⟨x1, x2, x3, x4, x5, x6⟩ := e7 j (by omega)
      obtain ⟨y1, y2, y3, y4, y5, y6⟩ := up j
      rw [if_neg (by omega)] at y1 y2 y3 y4 y5 y6
      exact ⟨x1.trans y1, x2.trans y2, x3.trans y3, x4.trans y4, x5.trans y5, x6.trans y6⟩
theorem copy144_L : ∀ d i n S, i + d = 18 → d + 1 ≤ n → ∃ S', m_X4_copy_L144 n S (nI i) = some S' ∧ S'.1 = S.1 ∧ S'.2.2 = S.2.2 ∧ (∀ a, a ≠ 39 → S'.2.1 a = S.2.1 a) ∧ (∀ j, i ≤ j → j < 18 → S'.2.1 39 j = S.2.1 30 j) ∧ (∀ j, j < i → S'.2.1 39 j = S.2.1 39 j) := by
  intro d
  induction d with
  | zero =>
    intro i n S hi hn
    obtain ⟨m, rfl⟩ : ∃ m, n = m + 1 := ⟨n - 1, by omega⟩
    refine ⟨S, ?_, rfl, rfl, fun _ _ => rfl, fun j h1 h2 => absurd h1 (by omega), fun _ _ => rfl⟩
    unfold m_X4_copy_L144
    rw [lit32 18, if_pos (by rw [leN (by omega) (by omega)]; omega)]
  | succ d ih =>
    intro i n S hi hn
    obtain ⟨m, rfl⟩ : ∃ m, n = m + 1 := ⟨n - 1, by omega⟩
    obtain ⟨S', e1, e2, e3, e4, e5, e6⟩ := ih (i + 1) m (sA S 39 i (S.2.1 30 i)) (by omega) (by omega)
    refine ⟨S', ?_, e2, e3, ?_, ?_, ?_⟩
    · unfold m_X4_copy_L144
      simp only [nmE]
      rw [lit32 18, if_neg (by rw [leN (by omega) (by omega)]; omega), ckN (by omega) (by omega), ckN (by omega) (by omega), clN (by omega), s1]
      exact e1
    · intro a h1
      rw [e4 a h1, sA_row h1]
    · intro j h1 h2
      by_cases c : j = i
      · subst c
        rw [e6 j (by omega), sA_eq]
      · rw [e5 j (by omega) h2, sA_row (by omega)]
    · intro j h1
      rw [e6 j (by omega), sA_ne (by omega)]
theorem copy8 {k n : Nat} {S T : St} (hv : VR 30 25 k S T) (hb : BitP 25 S) (hn : 30 ≤ n) : ∃ S', m_X4_copy n S = some S' ∧ EqS S S' ∧ S'.1 0 = S.1 0 ∧ S'.2.2 = S.2.2 ∧ VR 40 34 k S' T := by
  have hk := hv.1
  let S0' : St := sI (sI (sI (sI (sI (sI (sI S 40 (S.1 30)) 41 (S.1 31)) 42 (S.1 32)) 43 (S.1 33)) 44 (S.1 34)) 45 (S.1 35)) 46 (S.1 36)
  have i0 : ∀ i, i < 40 → S0'.1 i = S.1 i := fun i hi => by
    show (sI (sI (sI (sI (sI (sI (sI S 40 (S.1 30)) 41 (S.1 31)) 42 (S.1 32)) 43 (S.1 33)) 44 (S.1 34)) 45 (S.1 35)) 46 (S.1 36)).1 i = _
    simp (disch := omega) only [sI_ne]
  obtain ⟨S1, a1, a2, a3, a4, a5, a6, a7⟩ := copy58_L 6 0 n S0' (by omega) (by omega) hb
  obtain ⟨S', b1, b2, b3, b4, b5, b6⟩ := copy144_L 18 0 n S1 (by omega) (by omega)
  have hi : S'.1 = S0'.1 := b2.trans a2
  have hrow : ∀ a, a ≤ 34 → S'.2.1 a = S.2.1 a := fun a ha => (b4 a (by omega)).trans (a4 a ha)
  have hE : EqS S S' := ⟨fun i h1 h2 => by rw [hi]; exact i0 i (by omega), fun a ha => hrow a (by omega)⟩
  refine ⟨S', ?_, hE, by rw [hi]; exact i0 0 (by omega), b3.trans a3, ?_⟩
  · show (m_X4_copy_L58 n S0' (nI 0)).bind (fun q15 => (m_X4_copy_L144 n q15 0).bind (fun q44 => some q44)) = some S'
    rw [a1]
    simp only [Option.bind_some]
    rw [show m_X4_copy_L144 n S1 0 = some S' from b1]
    rfl
  · obtain ⟨hk, h3, h10, hli, hlo, ⟨m0, m1, m2, m3, m4, m5, m6, mc⟩, hmi⟩ := hv
    refine ⟨hk, h3, h10, fun l hl => (hli l hl).congr (hE.1 _ (by omega) (by omega)) (hE.1 _ (by omega) (by omega)) (hE.2 _ (by omega)) (hE.2 _ (by omega)) (fun _ _ _ => rfl), hlo, ⟨?_, ?_, ?_, ?_, ?_, ?_, ?_, ?_⟩, hmi⟩
    · rw [hi]; exact m0
    · rw [hi]; exact m1
    · rw [hi]; exact m2
    · rw [hi]; exact m3
    · rw [hi]; exact m4
    · rw [hi]; exact m5
    · rw [hi]; exact m6
    · intro l hl
      obtain ⟨c1, c2, c3, c4, c5, c6, c7⟩ := mc l hl
      obtain ⟨x1, x2, x3, x4, x5, x6⟩ := a6 l (by omega) (by omega)
      refine ⟨?_, ?_, ?_, ?_, ?_, ?_, ?_⟩
      · rw [b4 _ (by omega)]; exact x1.trans c1
      · rw [b4 _ (by omega)]; exact x2.trans c2
      · rw [b4 _ (by omega)]; exact x3.trans c3
      · rw [b4 _ (by omega)]; exact x4.trans c4
      · rw [b4 _ (by omega)]; exact x5.trans c5
      · rw [b4 _ (by omega)]; exact x6.trans c6
      · intro t ht
        rw [show (34 + 5 : Nat) = 39 from rfl, b5 _ (by omega) (by omega), a4 30 (by omega)]; exact c7 t ht
theorem aside_L {x1 x2 x3 x4 x5 : Int32} : ∀ d i n T, i + d = 63 → d + 1 ≤ n → ∃ T', m_X9_often_L42 n T x1 x2 x3 x4 x5 (nI i) = some T' ∧ T'.1 = T.1 ∧ T'.2.2 = T.2.2 ∧ (∀ a, a ≠ 12 → T'.2.1 a = T.2.1 a) ∧ (∀ x, T'.2.1 12 x = if i ≤ x ∧ x < 63 then T.2.1 11 x else T.2.1 12 x) := by
  intro d
  induction d with
  | zero =>
    intro i n T hi hn
    obtain ⟨m, rfl⟩ : ∃ m, n = m + 1 := ⟨n - 1, by omega⟩
    refine ⟨T, ?_, rfl, rfl, fun _ _ => rfl, fun x => by rw [if_neg (by omega)]⟩
    unfold m_X9_often_L42
    rw [lit32 63, if_pos (by rw [leN (by omega) (by omega)]; omega)]
  | succ d ih =>
    intro i n T hi hn
    obtain ⟨m, rfl⟩ : ∃ m, n = m + 1 := ⟨n - 1, by omega⟩
    obtain ⟨T', e1, e2, e3, e4, e5⟩ := ih (i + 1) m (sA T 12 i (T.2.1 11 i)) (by omega) (by omega)
    refine ⟨T', ?_, e2, e3, fun a ha => (e4 a ha).trans (sA_row ha), ?_⟩
    · unfold m_X9_often_L42
      simp only [nmE]
      rw [lit32 63, if_neg (by rw [leN (by omega) (by omega)]; omega), ckN (by omega) (by omega), ckN (by omega) (by omega), clN (by omega), s1]
      exact e1
    · intro x
      rw [e5 x, sA_row (show (11 : Nat) ≠ 12 by omega), sA_21, if_pos rfl]
      by_cases c : x = i
      · subst c
        rw [if_neg (by omega), if_pos rfl, if_pos (by omega)]
      · rw [if_neg c]
        by_cases c2 : i + 1 ≤ x ∧ x < 63
        · rw [if_pos c2, if_pos (show i ≤ x ∧ x < 63 by omega)]
        · rw [if_neg c2, if_neg (show ¬ (i ≤ x ∧ x < 63) by omega)]
theorem back_L {x1 x2 x4 x5 x6 x7 x8 x9 : Int32} : ∀ d i n T, i + d = 63 → d + 1 ≤ n → ∃ T', m_X9_often_L155 n T x1 x2 x4 x5 x6 x7 x8 x9 (nI i) = some T' ∧ T'.1 = T.1 ∧ T'.2.2 = T.2.2 ∧ (∀ a, a ≠ 11 → T'.2.1 a = T.2.1 a) ∧ (∀ x, T'.2.1 11 x = if i ≤ x ∧ x < 63 then T.2.1 12 x else T.2.1 11 x) := by
  intro d
  induction d with
  | zero =>
    intro i n T hi hn
    obtain ⟨m, rfl⟩ : ∃ m, n = m + 1 := ⟨n - 1, by omega⟩
    refine ⟨T, ?_, rfl, rfl, fun _ _ => rfl, fun x => by rw [if_neg (by omega)]⟩
    unfold m_X9_often_L155
    rw [lit32 63, if_pos (by rw [leN (by omega) (by omega)]; omega)]
  | succ d ih =>
    intro i n T hi hn
    obtain ⟨m, rfl⟩ : ∃ m, n = m + 1 := ⟨n - 1, by omega⟩
    obtain ⟨T', e1, e2, e3, e4, e5⟩ := ih (i + 1) m (sA T 11 i (T.2.1 12 i)) (by omega) (by omega)
    refine ⟨T', ?_, e2, e3, fun a ha => (e4 a ha).trans (sA_row ha), ?_⟩
    · unfold m_X9_often_L155
      simp only [nmE]
      rw [lit32 63, if_neg (by rw [leN (by omega) (by omega)]; omega), ckN (by omega) (by omega), ckN (by omega) (by omega), clN (by omega), s1]
      exact e1
    · intro x
      rw [e5 x, sA_row (show (12 : Nat) ≠ 11 by omega), sA_21, if_pos rfl]
      by_cases c : x = i
      · subst c
        rw [if_neg (by omega), if_pos rfl, if_pos (by omega)]
      · rw [if_neg c]
        by_cases c2 : i + 1 ≤ x ∧ x < 63
        · rw [if_pos c2, if_pos (show i ≤ x ∧ x < 63 by omega)]
        · rw [if_neg c2, if_neg (show ¬ (i ≤ x ∧ x < 63) by omega)]
/-- what a run of draws leaves of the reference -/
def FrO (T0 T : St) : Prop := (∀ i, i ≠ 16 → i ≠ 39 → T.1 i = T0.1 i) ∧ (∀ a, a ≠ 12 → a ≠ 15 → T.2.1 a = T0.2.1 a) ∧ T.2.2 = T0.2.2 ∧ (∀ i : Nat, (i : Int) < 4 * (T0.1 13).toInt → T.2.1 15 i = T0.2.1 15 i)
theorem often_L {k l N : Nat} {S0 T0 : St} (hv0 : VR 30 25 k S0 T0) (hb0 : BitP 25 S0) (hl : l < k) (hN : N ≤ 50) (g : Int32) {c : Nat} (hc54 : c ≤ 54) (ec : T0.1 13 = nI c) (eg : T0.1 14 = g) :
    ∀ d i n n' S T y5 y6 y7, i + d = N → d + 250 ≤ n → d + 250 ≤ n' → EqS S0 S → S.2.2 = S0.2.2 → FrO T0 T → (∀ x, x < 63 → T.2.1 12 x = T0.2.1 11 x) →
      ∃ S' T' z5 z6 z7, m_X8_often_L36 n S (nI l) (nI N) (T.1 39) y5 y6 y7 (nI i) = some (S', z5, z6, z7) ∧ m_X9_often_L89 n' T (nI l) (nI N) (nI c) g y5 y6 y7 (nI i) = some (T', z5, z6, z7) ∧ EqS S0 S' ∧ S'.2.2 = S0.2.2 ∧ FrO T0 T' := by
  have hk := hv0.1
  intro d
  induction d with
  | zero =>
    intro i n n' S T y5 y6 y7 hi hn hn' hE hS2 hF h12
    obtain ⟨m, rfl⟩ : ∃ m, n = m + 1 := ⟨n - 1, by omega⟩
    obtain ⟨m', rfl⟩ : ∃ m, n' = m + 1 := ⟨n' - 1, by omega⟩
    refine ⟨S, T, y5, y6, y7, ?_, ?_, hE, hS2, hF⟩
    · unfold m_X8_often_L36
      rw [if_pos (by rw [leN (by omega) (by omega)]; omega)]
    · unfold m_X9_often_L89
      rw [if_pos (by rw [leN (by omega) (by omega)]; omega)]
  | succ d ih =>
    intro i n n' S T y5 y6 y7 hi hn hn' hE hS2 hF h12
    obtain ⟨m, rfl⟩ : ∃ m, n = m + 1 := ⟨n - 1, by omega⟩
    obtain ⟨m', rfl⟩ : ∃ m, n' = m + 1 := ⟨n' - 1, by omega⟩
    have hv : VR 30 25 k S T := by
      have hv1 := hv0.congr hE (EqT.rfl T0)
      obtain ⟨hk, h3, h10, hli, hlo, hme, hmi⟩ := hv1
      refine ⟨hk, by rw [hF.1 3 (by omega) (by omega)]; exact h3, by rw [hF.1 10 (by omega) (by omega)]; exact h10, fun l hl => (hli l hl).congr rfl rfl rfl rfl (fun a h1 h2 => hF.2.1 a (by omega) (by omega)), ?_, hme.congr (fun i hi => rfl) (fun i hi1 hi2 => rfl) (hF.1 10 (by omega) (by omega)) (hF.1 13 (by omega) (by omega)) (hF.1 14 (by omega) (by omega)) (hF.2.1 11 (by omega) (by omega)), ?_⟩
      · rw [hF.2.1 5 (by omega) (by omega)]; exact hlo
      · rw [hF.2.1 11 (by omega) (by omega), hF.1 13 (by omega) (by omega), hF.1 14 (by omega) (by omega)]; exact hmi
    have hb : BitP 25 S := fun j hj => by
      rw [hE.2 (25 + 2) (by omega), hE.2 (25 + 4) (by omega)]; exact hb0 j hj
    obtain ⟨S1, a1, a2, a3, a4, a5⟩ := copy8 (n := m) hv hb (by omega)
    have ecT : T.1 13 = nI c := (hF.1 13 (by omega) (by omega)).trans ec
    obtain ⟨S2, T2, c', b1, b2, b3, b4, b5, b6, b7, b8, b9, b10⟩ := draw_both (ib := 40) (ab := 34) (n := m) (n' := m') (by omega) (by omega) a5 ecT hc54 (by omega) (by omega)
    have hE2 : EqS S0 S2 := hE.trans (a2.trans ⟨fun i h1 h2 => b6.1 i (by omega), fun a ha => b6.2.1 a (by omega)⟩)
    have hS22 : S2.2.2 = S0.2.2 := b6.2.2.trans (a4.trans hS2)
    have hout := (b5.own hl).2.2.2.2.2.1
    have e38 : S2.2.1 38 l = mt T2 l 6 := (b5.cell hl).2.2.2.1
    -- what is counted
    have hrk := rnk_lt_k (w := tru) (ky := pkk T2) hl
    obtain ⟨u, w, hcl, hre1, hre2⟩ : ∃ u w : Int32, ((if S2.2.1 38 l = 0 then ((m_X4_placeOf 40 34 m S2 (nI l)).bind (fun r19 => if r19 = 0 then (some (y5 + 1, y6)) else (some (y5, y6)))) else (some (y5, y6 + 1)) : Option (Int32 × Int32))) = some (y5 + u, y6 + w) ∧ ((m_X9_isOut T2 (nI l)).bind (fun r23 => ((if r23 = 0 then ((m_X9_aheadOf m' T2 (nI l)).bind (fun r47 => if r47 = 0 then (some 1) else (some 0))) else (some 0) : Option (Int32))).bind (fun q26 => (m_X9_flag T2 q26)))) = some u ∧ ((m_X9_isOut T2 (nI l)).bind (fun r30 => m_X9_flag T2 r30)) = some w := by
      rw [e38, isOut_eq (by omega), placeOf8 b5 hl (by omega), aheadOf9 b5.pt hl (by omega)]
      simp only [Option.bind_some]
      rw [if0N (by omega)]
      rcases rg01 hout with q | q
      · rw [q, if_pos rfl, if_neg (show ¬ (0 : Int32) = 1 by decide), if_pos rfl, if0N (by omega)]
        by_cases z : rnk k tru (pkk T2) l = 0
        · rw [if_pos z, if_pos z]
          exact ⟨1, 0, by rw [Int32.add_zero], rfl, rfl⟩
        · rw [if_neg z, if_neg z]
          exact ⟨0, 0, by rw [Int32.add_zero, Int32.add_zero], rfl, rfl⟩
      · rw [q, if_neg (show ¬ (1 : Int32) = 0 by decide), if_pos rfl, if_neg (show ¬ (1 : Int32) = 0 by decide)]
        exact ⟨0, 1, by rw [Int32.add_zero], rfl, rfl⟩
    obtain ⟨T3, f1, f2, f3, f4, f5⟩ := back_L (x1 := nI l) (x2 := nI N) (x4 := nI c) (x5 := g) (x6 := y5 + u) (x7 := y6 + w) (x8 := y7 + sm T2 l) (x9 := nI i) 63 0 m' T2 (by omega) (by omega)
    have e11 : T3.2.1 11 = T0.2.1 11 := by
      funext x
      rw [f5 x]
      by_cases q : x < 63
      · rw [if_pos (by omega), b7.2.1 12 (by omega) (by omega), h12 x q]
      · rw [if_neg (by omega), b7.2.2.2.1 x (by omega), hF.2.1 11 (by omega) (by omega)]
    have hF' : FrO T0 (sI (sI T3 13 (nI c)) 14 g) := by
      refine ⟨fun j h1 h2 => ?_, fun a h1 h2 => ?_, ?_, fun j hj => ?_⟩
      · by_cases q14 : j = 14
        · subst q14; rw [sI_eq, eg]
        · rw [sI_ne q14]
          by_cases q13 : j = 13
          · subst q13; rw [sI_eq, ec]
          · rw [sI_ne q13, f2, b7.1 j q13 q14 h1 h2, hF.1 j h1 h2]
      · show T3.2.1 a = _
        by_cases q11 : a = 11
        · subst q11; exact e11
        · rw [f4 a q11, b7.2.1 a q11 h2, hF.2.1 a h1 h2]
      · show T3.2.2 = _
        rw [f3, b7.2.2.1, hF.2.2.1]
      · show T3.2.1 15 j = _
        rw [f4 15 (by omega), b7.2.2.2.2.2 j (by rw [ecT, ← ec]; exact hj), hF.2.2.2 j hj]
    have h12' : ∀ x, x < 63 → (sI (sI T3 13 (nI c)) 14 g).2.1 12 x = T0.2.1 11 x := fun x hx => by
      show T3.2.1 12 x = _
      rw [f4 12 (by omega), b7.2.1 12 (by omega) (by omega)]; exact h12 x hx
    obtain ⟨S', T', z5, z6, z7, p1, p2, p3, p4, p5⟩ := ih (i + 1) m m' S2 (sI (sI T3 13 (nI c)) 14 g) (y5 + u) (y6 + w) (y7 + sm T2 l) (by omega) (by omega) (by omega) hE2 hS22 hF' h12'
    refine ⟨S', T', z5, z6, z7, ?_, ?_, p3, p4, p5⟩
    · unfold m_X8_often_L36
      rw [if_neg (by rw [leN (by omega) (by omega)]; omega), a1]
      simp only [Option.bind_some]
      rw [b3]
      simp only [Option.bind_some]
      rw [ckN (by omega) (by omega), clN (by omega), hcl]
      simp only [Option.bind_some]
      rw [sum8 b5 hl]
      simp only [Option.bind_some]
      rw [s1]
      have e39 : (sI (sI T3 13 (nI c)) 14 g).1 39 = T2.1 39 := by show T3.1 39 = _; rw [f2]
      rw [← e39]
      exact p1
    · unfold m_X9_often_L89
      simp only [nmE]
      rw [if_neg (by rw [leN (by omega) (by omega)]; omega), b4]
      simp only [Option.bind_some]
      simp only [← Option.bind_assoc] at hre1 hre2 ⊢
      rw [hre1]
      simp only [Option.bind_some]
      rw [hre2]
      simp only [Option.bind_some]
      rw [sum9 (by omega)]
      simp only [Option.bind_some]
      rw [show m_X9_often_L155 m' T2 (nI l) (nI N) (nI c) g (y5 + u) (y6 + w) (y7 + sm T2 l) (nI i) 0 = some T3 from f1]
      simp only [Option.bind_some]
      rw [s1]
      exact p2
/-- often -/
theorem hb_33 (n : Nat) (hn : 400 ≤ n) : HB_33 n RelB := by
  intro S oF oP T a1 a2 a3 hR
  obtain ⟨hf, hro, k, hc⟩ := id hR
  have hv := hc.vr.congrT (EqT.thr T 0)
  have hk := hv.1
  unfold m_X8_often m_X9_often
  simp only [nmE]
  rcases isL hv a1 with ⟨l, hl, rfl, e1, e2⟩ | ⟨e1, e2⟩
  · rw [e1, e2]
    simp only [Option.bind_some, b10, if_false]
    have i1 : Int32.toInt 1 = 1 := rfl
    have i50 : Int32.toInt 50 = 50 := rfl
    have j1 : Int64.toInt 1 = 1 := rfl
    have j50 : Int64.toInt 50 = 50 := rfl
    by_cases cN : 1 ≤ a2.toInt ∧ a2.toInt ≤ 50
    · rw [in_yes (by rw [t64, j1]; exact cN.1) (by rw [t64, j50]; exact cN.2), if_neg (by rw [lt32, i1]; omega), if_pos (by rw [le32, i50]; omega)]
      simp only [Option.bind_some, b10, if_false]
      obtain ⟨N, hN, rfl⟩ := (show Rg a2 0 50 from ⟨by omega, cN.2⟩).nat (n := 50)
      obtain ⟨lift, round, done, hj⟩ := hv.2.2.2.2.2.2.at
      obtain ⟨c, hc54, ec⟩ := hj.2.2.2.2.2.2.1.nat (n := 54)
      obtain ⟨T1, f1, f2, f3, f4, f5⟩ := aside_L (x1 := nI l) (x2 := nI N) (x3 := a3) (x4 := (sI T 0 0).1 13) (x5 := (sI T 0 0).1 14) 63 0 n (sI T 0 0) (by omega) (by omega)
      rw [show m_X9_often_L42 n (sI T 0 0) (nI l) (nI N) a3 ((sI T 0 0).1 13) ((sI T 0 0).1 14) 0 = some T1 from f1]
      simp only [Option.bind_some]
      have hF : FrO (sI T 0 0) (sI T1 39 a3) := ⟨fun i _ q => by rw [sI_ne q, f2], fun a h1 _ => f4 a h1, f3, fun i _ => by show T1.2.1 15 i = _; rw [f4 15 (by omega)]⟩
      obtain ⟨S', T', z5, z6, z7, p1, p2, p3, p4, p5⟩ := often_L hv hc.2.2.2.2.2.2.2.2.2 hl hN ((sI T 0 0).1 14) hc54 ec rfl N 0 n n S (sI T1 39 a3) 0 0 0 (by omega) (by omega) (by omega) (EqS.rfl S) rfl hF (fun x hx => by show T1.2.1 12 x = _; rw [f5 x, if_pos (by omega)])
      rw [show m_X8_often_L36 n S (nI l) (nI N) a3 0 0 0 0 = _ from p1, ec, show m_X9_often_L89 n (sI T1 39 a3) (nI l) (nI N) (nI c) ((sI T 0 0).1 14) 0 0 0 0 = _ from p2]
      simp only [Option.bind_some]
      rw [tellTwo8, notes_eq (t := 0) (by omega) rfl]
      simp only [Option.bind_some]
      rw [notes_eq (t := 1) (by omega) rfl]
      simp only [Option.bind_some]
      have hTn : EqT T' (sI (sJ (sI (sJ (sI T' 1 0) 2 0 z6.toInt64) 1 (nI (0 + 1))) 2 1 z7.toInt64) 1 (nI (1 + 1))) := EqT.rfl T'
      refine ⟨z5, sI (sJ (sJ S' 58 0 z6.toInt64) 58 1 z7.toInt64) 0 2, sI (sJ (sI (sJ (sI T' 1 0) 2 0 z6.toInt64) 1 (nI (0 + 1))) 2 1 z7.toInt64) 1 (nI (1 + 1)), rfl, rfl, hf.congr ?_, row2' rfl rfl ?_ ?_, k, ?_⟩
      · show S'.2.2.2 = _
        rw [p4]
      · exact (two8 S' _ _).1.trans (two9 (sI T' 1 0) _ _ _).1.symm
      · exact (two8 S' _ _).2.trans (two9 (sI T' 1 0) _ _ _).2.symm
      · refine CoreR.congr (S := S') (T := T') ?_ (EqS.told (EqS.rfl S') 2) hTn
        have hcc := hc.congr p3 (EqT.thr T 0)
        obtain ⟨hk, h3, h10, hta, hli, hlo, hme, hmi, hlg⟩ := hcc
        refine ⟨hk, by rw [p5.1 3 (by omega) (by omega)]; exact h3, by rw [p5.1 10 (by omega) (by omega)]; exact h10, hta.congr rfl rfl (p5.1 18 (by omega) (by omega)) (p5.2.1 17 (by omega) (by omega)), fun l hl => (hli l hl).congr rfl rfl rfl rfl (fun a h1 h2 => p5.2.1 a (by omega) (by omega)), ?_, hme.congr (fun i hi => rfl) (fun i hi1 hi2 => rfl) (p5.1 10 (by omega) (by omega)) (p5.1 13 (by omega) (by omega)) (p5.1 14 (by omega) (by omega)) (p5.2.1 11 (by omega) (by omega)), ?_, ?_, hlg.2⟩
        · rw [p5.2.1 5 (by omega) (by omega)]; exact hlo
        · rw [p5.2.1 11 (by omega) (by omega), p5.1 13 (by omega) (by omega), p5.1 14 (by omega) (by omega)]; exact hmi
        · intro i hi
          rw [p5.1 13 (by omega) (by omega)] at hi
          rw [p5.2.2.2 i hi]
          exact hlg.1 i hi
    · rw [in_no (by rw [t64, j1, j50]; omega)]
      refine ⟨-1, S, _, ?_, rfl, hR.thr 0⟩
      by_cases q : a2 < 1
      · rw [if_pos q]
      · rw [if_neg q, if_neg]
        rw [lt32, i1] at q
        rw [le32, i50]; omega
  · rw [e1, e2]
    exact ⟨-1, _, _, rfl, rfl, hR.thr 0⟩
