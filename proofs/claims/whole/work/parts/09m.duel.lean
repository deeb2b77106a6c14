/-! ===== layer B: duel and bluff, told ===== -/
theorem DF.eq {D : DD} {k la lb : Nat} {S T T' : St} (h : DF D k la lb S T) (f : EqT T T') (e5 : T'.1 35 = T.1 35) (e6 : T'.1 36 = T.1 36) : DF D k la lb S T' := by
  obtain ⟨h1, h2, h3, h4, h5, h6, h7, h8, h9, h10⟩ := h
  exact ⟨h1.congrT f, h2, h3, h4, e5.trans h5, e6.trans h6, by rw [dQ_eqT f]; exact h7, by rw [f.2.2.1]; exact h8, by rw [nM_eqT f]; exact h9, by rw [nM_eqT f]; exact h10⟩
theorem DF.start {k la lb : Nat} {S T : St} (hv : VR 30 25 k S T) (hla : la < k) (hlb : lb < k) (hne : la ≠ lb) (h2 : T.2.1 11 0 = nI 2) (h9 : nM T la 0 ≠ 0) (h10 : nM T lb 0 ≠ 0) : DF (dQ T la lb) k la lb S (sI (sI T 35 (nI la)) 36 (nI lb)) :=
  ⟨hv.congrT (EqT.rfl T), hla, hlb, hne, by rw [sI_ne (by omega), sI_eq], sI_eq, (dQ_eqT (show EqT T (sI (sI T 35 (nI la)) 36 (nI lb)) from EqT.rfl T) la lb).symm, h2, h9, h10⟩
def told9 (D : DD) (T : St) (la lb c d : Nat) : St := sI (sJ (sI (sJ (sI T 1 0) 2 0 (if fst D (D.2.2 6) (D.2.2 7) = true then nI la else nI lb).toInt64) 1 (nI (0 + 1))) 2 1 (nI (dC D c d (D.2.2 6) (D.2.2 7))).toInt64) 1 (nI (1 + 1))
theorem enters9d {D : DD} {k la lb c d : Nat} {S T : St} (hD : DF D k la lb S T) (hc : c ≤ 2) (hd : d ≤ 2) (hl : LaidD D T c d) : m_X9_entersDuel T (nI c) (nI d) = some (told9 D T la lb c d) := by
  have hw := hD.wf.2.2.2
  obtain ⟨hv, hla, hlb, hne, h5, h6, h7, h8, h9, h10⟩ := id hD
  have hk := hv.1
  have e6 : D.2.2 6 = nM T la 0 := by rw [h7]; rfl
  have e7 : D.2.2 7 = nM T lb 0 := by rw [h7]; rfl
  have hcl := cl_lt (c := c) (d := d) (a := D.2.2 6) (b := D.2.2 7) hc hd (by omega) (by omega)
  have hD1 : DF D k la lb S (sI T 1 0) := hD.eq (EqT.rfl T) (sI_ne (by omega)) (sI_ne (by omega))
  have k2 : ((if (if fst D (D.2.2 6) (D.2.2 7) = true then (1 : Int32) else 0) = 0 then (some (nI lb).toInt64) else (some (nI la).toInt64) : Option (Int64))) = some (if fst D (D.2.2 6) (D.2.2 7) = true then nI la else nI lb).toInt64 := by
    by_cases cf : fst D (D.2.2 6) (D.2.2 7) = true
    · rw [if_pos cf, if_pos cf, if_neg (show ¬ (1 : Int32) = 0 by decide)]
    · rw [if_neg cf, if_neg cf, if_pos rfl]
  unfold m_X9_entersDuel
  rw [h5, h6, of0 (by omega), Option.bind_some, of0 (by omega), Option.bind_some, (duelOwn hv hla h8 h9).1, (duelOwn hv hlb h8 h10).1, ← e6, ← e7, nmE, called9d hD1 (by omega) (by omega), Option.bind_some, hD1.2.2.2.2.1, hD1.2.2.2.2.2.1, k2, Option.bind_some, notes_eq (T := sI T 1 0) (t := 0) (by omega) sI_eq, Option.bind_some, cell9d, Option.bind_some, ckN hcl (by omega), clN (by omega)]
  rw [show ∀ v, (sI (sJ (sI T 1 0) 2 0 v) 1 (nI (0 + 1))).2.1 38 = T.2.1 38 from fun v => rfl, (hl _ _ (by omega) (by omega) (by omega) (by omega)).2, notes_eq (t := 1) (by omega) (show (sI (sJ (sI T 1 0) 2 0 _) 1 (nI (0 + 1))).1 1 = nI 1 from sI_eq), Option.bind_some]
  rfl
theorem told9_row (D : DD) (T : St) (la lb c d : Nat) : EqT T (told9 D T la lb c d) ∧ (told9 D T la lb c d).1 1 = nI 2 ∧ (told9 D T la lb c d).2.2.1 2 0 = (if fst D (D.2.2 6) (D.2.2 7) = true then nI la else nI lb).toInt64 ∧ (told9 D T la lb c d).2.2.1 2 1 = (nI (dC D c d (D.2.2 6) (D.2.2 7))).toInt64 := by
  unfold told9
  exact ⟨EqT.note (EqT.note (show EqT T (sI T 1 0) from EqT.rfl T) _ _ _) _ _ _, sI_eq, (two9 (sI T 1 0) _ _ _).1, (two9 (sI T 1 0) _ _ _).2⟩
theorem fight_main {k la lb c d n : Nat} {S T : St} {oF oP : Option St} (t : Int32) (hf : RefR S oF oP) (hv : VR 30 25 k S T) (hla : la < k) (hlb : lb < k) (hw : DW (dQ T la lb)) (h1 : T.2.1 11 0 = 2) (h2 : T.2.1 11 1 = 2) (h3 : wt T la = true) (h4 : wt T lb = true) (hc : c ≤ 2) (hd : d ≤ 2) (hn : 200 ≤ n) :
    ∃ S' P', ((∃ P, oP = some P ∧ m_X8_fight n S P (nI la) (nI lb) (nI c) (nI d) t = some (nI (dV (dQ T la lb) c d ((dQ T la lb).2.2 6) ((dQ T la lb).2.2 7)), S', P')) ∨ (oP = none ∧ m_X8_fightB n S (nI la) (nI lb) (nI c) (nI d) t = some (nI (dV (dQ T la lb) c d ((dQ T la lb).2.2 6) ((dQ T la lb).2.2 7)), S', some P'))) ∧ RefR S' oF (some P') ∧ EqS S S' ∧ S'.1 0 = t ∧
      S'.2.2.1 58 0 = (if fst (dQ T la lb) ((dQ T la lb).2.2 6) ((dQ T la lb).2.2 7) = true then nI la else nI lb).toInt64 ∧ S'.2.2.1 58 1 = (nI (dC (dQ T la lb) c d ((dQ T la lb).2.2 6) ((dQ T la lb).2.2 7))).toInt64 ∧ S'.2.2.1 58 2 = (nI (dV (dQ T la lb) 0 0 ((dQ T la lb).2.2 6) ((dQ T la lb).2.2 7))).toInt64 := by
  have h9 := wt_nz hv hla h3
  have h10 := wt_nz hv hlb h4
  have hE : ∀ SX : St, EqS SX (tells8 SX (dQ T la lb) la lb c d t) := fun SX => ⟨fun i q1 q2 => by unfold tells8; rw [sI_ne (by omega)]; rfl, fun a ha => rfl⟩
  rcases hf.2.1 with ⟨z1, z2⟩ | ⟨P, z1, z2⟩
  · have hES : EqS S (sR S 3 (some 0)) := ⟨fun _ _ _ => rfl, fun _ _ => rfl⟩
    have q3 : (sR S 3 (some 0)).2.2.2 3 = some 0 := by rw [sR_222, if_pos rfl]
    obtain ⟨P', g1⟩ := fightR8 (n := n) Pr0 t (hv.congr hES (EqT.rfl T)) hla hlb h1 h9 h10 hw hc hd hn q3
    refine ⟨tells8 (sR S 3 (some 0)) (dQ T la lb) la lb c d t, P', Or.inr ⟨z1, ?_⟩, ?_, hES.trans (hE (sR S 3 (some 0))), sI_eq, (three8 (sR S 3 (some 0)) _ _ _).1, (three8 (sR S 3 (some 0)) _ _ _).2.1, (three8 (sR S 3 (some 0)) _ _ _).2.2⟩
    · rw [fightB8 _ _ _ hv hla hlb h1 h2 h3 h4 z2 hf.2.2, g1, Option.bind_some]
    · refine ⟨?_, Or.inr ⟨P', rfl, q3⟩, ?_⟩
      · show ((oF = none ∧ (sR S 3 (some 0)).2.2.2 2 = none) ∨ (∃ F, oF = some F ∧ (sR S 3 (some 0)).2.2.2 2 = some 0))
        rw [sR_222, if_neg (by omega)]
        exact hf.1
      · show ((sR S 3 (some 0)).2.2.2 0 = none ∨ ∃ j, j < 7 ∧ (sR S 3 (some 0)).2.2.2 0 = some j)
        rw [sR_222, if_neg (by omega)]
        exact hf.2.2
  · obtain ⟨P', g1⟩ := fightR8 (n := n) P t hv hla hlb h1 h9 h10 hw hc hd hn z2
    refine ⟨tells8 S (dQ T la lb) la lb c d t, P', Or.inl ⟨P, z1, ?_⟩, ⟨hf.1, Or.inr ⟨P', rfl, z2⟩, hf.2.2⟩, hE S, sI_eq, (three8 S _ _ _).1, (three8 S _ _ _).2.1, (three8 S _ _ _).2.2⟩
    rw [fight8 _ _ _ _ hv hla hlb, if_pos ⟨h1, h2⟩, if_pos ⟨h3, h4⟩, z2, onw_some (by omega), g1]
theorem changes_d {k l : Nat} {S T : St} (hv : VR 30 25 k S T) (hl : l < k) : mt T l 5 = nI (nM T l 5) ∧ nM T l 5 ≤ 2 := by
  obtain ⟨c, hc, e⟩ := (hv.own hl).2.2.2.2.1.nat (n := 2)
  unfold nM
  rw [e, clN (by omega)]
  exact ⟨rfl, hc⟩
/-- duel -/
theorem hb_30 (n : Nat) (hn : 400 ≤ n) : HB_30 n RelB := by
  intro S oF oP T a1 a2 hR
  obtain ⟨hf, hro, k, hc⟩ := id hR
  have hv := hc.vr.congrT (EqT.thr T 0)
  have hk := hv.1
  have hc0 := hc.congr (EqS.rfl S) (EqT.thr T 0)
  have hno : ∀ r, (∀ P, m_X8_duel n S P a1 a2 = some (r, S, P)) → m_X8_duelN S a1 a2 = some (r, S) → ((∃ P P', oP = some P ∧ oP = some P' ∧ m_X8_duel n S P a1 a2 = some (r, S, P')) ∨ (oP = none ∧ oP = none ∧ m_X8_duelN S a1 a2 = some (r, S)) ∨ (∃ P', oP = none ∧ oP = some P' ∧ m_X8_duelB n S a1 a2 = some (r, S, some P'))) := fun r q1 q2 => by
    rcases hf.2.1 with ⟨z1, z2⟩ | ⟨P, z1, z2⟩
    · exact Or.inr (Or.inl ⟨z1, z1, q2⟩)
    · exact Or.inl ⟨P, P, z1, z1, q1 P⟩
  unfold m_X9_duel
  rw [nmE]
  rcases isL hv a1 with ⟨la, hla, rfl, e1, e2⟩ | ⟨e1, e2⟩
  · rw [e2, Option.bind_some, if_neg (show ¬ (1 : Int32) = 0 by decide)]
    rcases isL hv a2 with ⟨lb, hlb, rfl, f1, f2⟩ | ⟨f1, f2⟩
    · rw [f2, Option.bind_some, if_neg (show ¬ (1 : Int32) = 0 by decide), ifeqN (by omega) (by omega)]
      by_cases clm : la = lb
      · rw [if_pos clm]
        refine ⟨-1, S, oP, sI T 0 0, hno (-1) (fun P => ?_) ?_, rfl, hR.thr 0⟩
        · unfold m_X8_duel
          rw [e1, Option.bind_some, if_neg (show ¬ (1 : Int32) = 0 by decide), f1, Option.bind_some, if_neg (show ¬ (1 : Int32) = 0 by decide), if_pos (by rw [clm])]
        · unfold m_X8_duelN
          rw [e1, Option.bind_some, if_neg (show ¬ (1 : Int32) = 0 by decide), f1, Option.bind_some, if_neg (show ¬ (1 : Int32) = 0 by decide), if_pos (by rw [clm])]
      · have hne : ¬ nI la = nI lb := by rw [eqN (by omega) (by omega)]; exact clm
        rw [if_neg clm, why9 hv hla hlb, Option.bind_some]
        by_cases ok : (sI T 0 0).2.1 11 0 = 2 ∧ (sI T 0 0).2.1 11 1 = 2 ∧ wt (sI T 0 0) la = true ∧ wt (sI T 0 0) lb = true
        · obtain ⟨o1, o2, o3, o4⟩ := ok
          rw [if_pos (show (sI T 0 0).2.1 11 0 = 2 ∧ (sI T 0 0).2.1 11 1 = 2 from ⟨o1, o2⟩), if_pos (show wt (sI T 0 0) la = true ∧ wt (sI T 0 0) lb = true from ⟨o3, o4⟩), if_pos rfl, nmE, nmE]
          obtain ⟨T1, hT1⟩ : ∃ T1, T1 = sI T 0 0 := ⟨_, rfl⟩
          rw [← hT1] at hv o1 o2 o3 o4 hc0 ⊢
          have hDF := DF.start hv hla hlb clm o1 (wt_nz hv hla o3) (wt_nz hv hlb o4)
          obtain ⟨cA1, cA2⟩ := changes_d hv hla
          obtain ⟨cB1, cB2⟩ := changes_d hv hlb
          obtain ⟨T2, a1, a2, a3⟩ := at9d (c := 0) (d := 0) (n := n) hDF (by omega) (by omega) (by omega)
          obtain ⟨T3, b1, b2, b3⟩ := at9d (c := nM T1 la 5) (d := nM T1 lb 5) (n := n) (hDF.fr a2) cA2 cB2 (by omega)
          have hDF3 := (hDF.fr a2).fr b2
          have x2 : ∀ l, mt T2 l 5 = mt T1 l 5 := fun l => by show T2.2.1 11 _ = _; rw [a2.2.1 11 (by omega) (by omega)]; rfl
          have x3 : ∀ l, mt T3 l 5 = mt T1 l 5 := fun l => by show T3.2.1 11 _ = _; rw [b2.2.1 11 (by omega) (by omega)]; exact x2 l
          have hent := enters9d hDF3 cA2 cB2 b3
          obtain ⟨t1, t2, t3, t4⟩ := told9_row (dQ T1 la lb) T3 la lb (nM T1 la 5) (nM T1 lb 5)
          obtain ⟨S', P', m1, m2, m3', m4', m5, m6, m7⟩ := fight_main (n := n) 3 hf hv hla hlb hDF.wf o1 o2 o3 o4 cA2 cB2 (by omega)
          rw [show m_X9_duelAt n (sI (sI T1 35 (nI la)) 36 (nI lb)) 0 0 = _ from a1, Option.bind_some, of5 (by omega), Option.bind_some, of5 (by omega), Option.bind_some, x2, x2, cA1, cB1, b1, Option.bind_some, of5 (by omega), Option.bind_some, of5 (by omega), Option.bind_some, x3, x3, cA1, cB1, hent, Option.bind_some, notes_eq (t := 2) (by omega) t2, Option.bind_some]
          have hET : EqT T1 (told9 (dQ T1 la lb) T3 la lb (nM T1 la 5) (nM T1 lb 5)) := ((show EqT T1 (sI (sI T1 35 (nI la)) 36 (nI lb)) from EqT.rfl T1).trans (a2.eqt.trans b2.eqt)).trans t1
          refine ⟨_, S', some P', _, ?_, rfl, m2, ?_, k, hc0.congr m3' (EqT.note hET _ _ _)⟩
          · have cl1 : S.2.1 28 la = nI (nM T1 la 5) := (hv.cell hla).2.2.1.trans cA1
            have cl2 : S.2.1 28 lb = nI (nM T1 lb 5) := (hv.cell hlb).2.2.1.trans cB1
            rcases m1 with ⟨P, z1, z2⟩ | ⟨z1, z2⟩
            · refine Or.inl ⟨P, P', z1, rfl, ?_⟩
              unfold m_X8_duel
              rw [e1, Option.bind_some, if_neg (show ¬ (1 : Int32) = 0 by decide), f1, Option.bind_some, if_neg (show ¬ (1 : Int32) = 0 by decide), if_neg hne, ckN (by omega) (by omega), ckN (by omega) (by omega), clN (by omega), clN (by omega), cl1, cl2, z2, Option.bind_some]
            · refine Or.inr (Or.inr ⟨P', z1, rfl, ?_⟩)
              unfold m_X8_duelB
              rw [e1, Option.bind_some, if_neg (show ¬ (1 : Int32) = 0 by decide), f1, Option.bind_some, if_neg (show ¬ (1 : Int32) = 0 by decide), if_neg hne, ckN (by omega) (by omega), ckN (by omega) (by omega), clN (by omega), clN (by omega), cl1, cl2, z2]
          · refine ⟨3, by omega, m4', sI_eq, fun j hj => ?_⟩
            rcases (by omega : j = 0 ∨ j = 1 ∨ j = 2) with rfl | rfl | rfl
            · rw [m5]
              show _ = (sJ (told9 (dQ T1 la lb) T3 la lb (nM T1 la 5) (nM T1 lb 5)) 2 2 _).2.2.1 2 0
              rw [sJ_221, if_pos rfl, if_neg (show ¬ 0 = 2 by omega), t3]
            · rw [m6]
              show _ = (sJ (told9 (dQ T1 la lb) T3 la lb (nM T1 la 5) (nM T1 lb 5)) 2 2 _).2.2.1 2 1
              rw [sJ_221, if_pos rfl, if_neg (show ¬ 1 = 2 by omega), t4]
            · rw [m7]
              show _ = (sJ (told9 (dQ T1 la lb) T3 la lb (nM T1 la 5) (nM T1 lb 5)) 2 2 _).2.2.1 2 2
              rw [sJ_221, if_pos rfl, if_pos rfl]
        · have hr : ((if (sI T 0 0).2.1 11 0 = 2 ∧ (sI T 0 0).2.1 11 1 = 2 then (if wt (sI T 0 0) la = true ∧ wt (sI T 0 0) lb = true then 0 else -3) else -2) : Int32) = (if (sI T 0 0).2.1 11 0 = 2 ∧ (sI T 0 0).2.1 11 1 = 2 then -3 else -2) := by
            by_cases c1 : (sI T 0 0).2.1 11 0 = 2 ∧ (sI T 0 0).2.1 11 1 = 2
            · rw [if_pos c1, if_pos c1, if_neg (fun q => ok ⟨c1.1, c1.2, q.1, q.2⟩)]
            · rw [if_neg c1, if_neg c1]
          have hz : ¬ ((if (sI T 0 0).2.1 11 0 = 2 ∧ (sI T 0 0).2.1 11 1 = 2 then -3 else -2) : Int32) = 0 := by split <;> decide
          rw [hr, if_neg hz]
          refine ⟨_, S, oP, sI T 0 0, hno _ (fun P => ?_) ?_, rfl, hR.thr 0⟩
          · unfold m_X8_duel
            rw [e1, Option.bind_some, if_neg (show ¬ (1 : Int32) = 0 by decide), f1, Option.bind_some, if_neg (show ¬ (1 : Int32) = 0 by decide), if_neg hne, ckN (by omega) (by omega), ckN (by omega) (by omega), fight8 _ _ _ _ hv hla hlb]
            by_cases c1 : (sI T 0 0).2.1 11 0 = 2 ∧ (sI T 0 0).2.1 11 1 = 2
            · rw [if_pos c1, if_pos c1, if_neg (show ¬ (wt (sI T 0 0) la = true ∧ wt (sI T 0 0) lb = true) from fun q => ok ⟨c1.1, c1.2, q.1, q.2⟩), Option.bind_some]
            · rw [if_neg c1, if_neg c1, Option.bind_some]
          · unfold m_X8_duelN
            rw [e1, Option.bind_some, if_neg (show ¬ (1 : Int32) = 0 by decide), f1, Option.bind_some, if_neg (show ¬ (1 : Int32) = 0 by decide), if_neg hne, ckN (by omega) (by omega), ckN (by omega) (by omega), fightN8 _ _ _ hv hla hlb ok, Option.bind_some]
    · rw [f2, Option.bind_some, if_pos rfl]
      refine ⟨-1, S, oP, sI T 0 0, hno (-1) (fun P => ?_) ?_, rfl, hR.thr 0⟩
      · unfold m_X8_duel
        rw [e1, Option.bind_some, if_neg (show ¬ (1 : Int32) = 0 by decide), f1, Option.bind_some, if_pos rfl]
      · unfold m_X8_duelN
        rw [e1, Option.bind_some, if_neg (show ¬ (1 : Int32) = 0 by decide), f1, Option.bind_some, if_pos rfl]
  · rw [e2, Option.bind_some, if_pos rfl]
    refine ⟨-1, S, oP, sI T 0 0, hno (-1) (fun P => ?_) ?_, rfl, hR.thr 0⟩
    · unfold m_X8_duel
      rw [e1, Option.bind_some, if_pos rfl]
    · unfold m_X8_duelN
      rw [e1, Option.bind_some, if_pos rfl]
