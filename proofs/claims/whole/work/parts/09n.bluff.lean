/-! ===== layer B: bluff ===== -/
theorem in02 (T : St) (a : Int32) : (∃ c, c ≤ 2 ∧ a = nI c ∧ m_X9_in T a.toInt64 0 2 = some 1) ∨ ((a < 0 ∨ 2 < a) ∧ m_X9_in T a.toInt64 0 2 = some 0) := by
  have i0 : Int64.toInt 0 = 0 := rfl
  have i2 : Int64.toInt 2 = 2 := rfl
  have j0 : Int32.toInt 0 = 0 := rfl
  have j2 : Int32.toInt 2 = 2 := rfl
  rcases cases32 a 3 (by omega) with ⟨c, hc, rfl⟩ | h
  · exact Or.inl ⟨c, by omega, rfl, in_yes (by rw [t64, tiN (by omega), i0]; omega) (by rw [t64, tiN (by omega), i2]; omega)⟩
  · refine Or.inr ⟨?_, in_no (by rw [t64, i0, i2]; omega)⟩
    rcases h with h | h
    · left; rw [lt32, j0]; exact h
    · right; rw [lt32, j2]; omega
theorem hb_31 (n : Nat) (hn : 400 ≤ n) : HB_31 n RelB := by
  intro S oF oP T a1 a2 a3 a4 hR
  obtain ⟨hf, hro, k, hc⟩ := id hR
  have hv := hc.vr.congrT (EqT.thr T 0)
  have hk := hv.1
  have hc0 := hc.congr (EqS.rfl S) (EqT.thr T 0)
  have hno : ∀ r, (∀ P, m_X8_bluff n S P a1 a2 a3 a4 = some (r, S, P)) → m_X8_bluffN S a1 a2 a3 a4 = some (r, S) → ((∃ P P', oP = some P ∧ oP = some P' ∧ m_X8_bluff n S P a1 a2 a3 a4 = some (r, S, P')) ∨ (oP = none ∧ oP = none ∧ m_X8_bluffN S a1 a2 a3 a4 = some (r, S)) ∨ (∃ P', oP = none ∧ oP = some P' ∧ m_X8_bluffB n S a1 a2 a3 a4 = some (r, S, some P'))) := fun r q1 q2 => by
    rcases hf.2.1 with ⟨z1, z2⟩ | ⟨P, z1, z2⟩
    · exact Or.inr (Or.inl ⟨z1, z1, q2⟩)
    · exact Or.inl ⟨P, P, z1, z1, q1 P⟩
  unfold m_X9_bluff
  rw [nmE]
  rcases isL hv a1 with ⟨la, hla, rfl, e1, e2⟩ | ⟨e1, e2⟩
  · rw [e2, Option.bind_some, if_neg (show ¬ (1 : Int32) = 0 by decide)]
    rcases isL hv a2 with ⟨lb, hlb, rfl, f1, f2⟩ | ⟨f1, f2⟩
    · rw [f2, Option.bind_some, if_neg (show ¬ (1 : Int32) = 0 by decide), ifeqN (by omega) (by omega)]
      by_cases clm : la = lb
      · rw [if_pos clm]
        refine ⟨-1, S, oP, sI T 0 0, hno (-1) (fun P => ?_) ?_, rfl, hR.thr 0⟩
        · unfold m_X8_bluff
          rw [e1, Option.bind_some, if_neg (show ¬ (1 : Int32) = 0 by decide), f1, Option.bind_some, if_neg (show ¬ (1 : Int32) = 0 by decide), if_pos (show nI la = nI lb by rw [clm])]
        · unfold m_X8_bluffN
          rw [e1, Option.bind_some, if_neg (show ¬ (1 : Int32) = 0 by decide), f1, Option.bind_some, if_neg (show ¬ (1 : Int32) = 0 by decide), if_pos (show nI la = nI lb by rw [clm])]
      · have hne : ¬ nI la = nI lb := by rw [eqN (by omega) (by omega)]; exact clm
        rw [if_neg clm]
        rcases in02 (sI T 0 0) a3 with ⟨c, hcc, rfl, i3⟩ | ⟨i3', i3⟩
        · rw [i3, Option.bind_some, if_neg (show ¬ (1 : Int32) = 0 by decide)]
          rcases in02 (sI T 0 0) a4 with ⟨d, hdd, rfl, i4⟩ | ⟨i4', i4⟩
          · rw [i4, Option.bind_some, if_neg (show ¬ (1 : Int32) = 0 by decide), why9 hv hla hlb, Option.bind_some]
            have hif : ∀ {α : Type} (x y : α), (if nI c < 0 then x else (if 2 < nI c then x else (if nI d < 0 then x else (if nI d ≤ 2 then y else x)))) = y := fun x y => by
              rw [if_neg (nI_pos (by omega)), if_neg (show ¬ 2 < nI c by rw [lit32 2, ltN (by omega) (by omega)]; omega), if_neg (nI_pos (by omega)), if_pos (show nI d ≤ 2 by rw [lit32 2, leN (by omega) (by omega)]; omega)]
            by_cases ok : (sI T 0 0).2.1 11 0 = 2 ∧ (sI T 0 0).2.1 11 1 = 2 ∧ wt (sI T 0 0) la = true ∧ wt (sI T 0 0) lb = true
            · obtain ⟨o1, o2, o3, o4⟩ := ok
              rw [if_pos (show (sI T 0 0).2.1 11 0 = 2 ∧ (sI T 0 0).2.1 11 1 = 2 from ⟨o1, o2⟩), if_pos (show wt (sI T 0 0) la = true ∧ wt (sI T 0 0) lb = true from ⟨o3, o4⟩), if_pos rfl, nmE, nmE]
              obtain ⟨T1, hT1⟩ : ∃ T1, T1 = sI T 0 0 := ⟨_, rfl⟩
              rw [← hT1] at hv o1 o2 o3 o4 hc0 ⊢
              have hDF := DF.start hv hla hlb clm o1 (wt_nz hv hla o3) (wt_nz hv hlb o4)
              obtain ⟨T3, b1, b2, b3⟩ := at9d (c := c) (d := d) (n := n) hDF hcc hdd (by omega)
              have hDF3 := hDF.fr b2
              have hent := enters9d hDF3 hcc hdd b3
              obtain ⟨t1, t2, t3, t4⟩ := told9_row (dQ T1 la lb) T3 la lb c d
              obtain ⟨S', P', m1, m2, m3', m4', m5, m6, m7⟩ := fight_main (n := n) 2 hf hv hla hlb hDF.wf o1 o2 o3 o4 hcc hdd (by omega)
              rw [b1, Option.bind_some, hent, Option.bind_some]
              have hET : EqT T1 (told9 (dQ T1 la lb) T3 la lb c d) := ((show EqT T1 (sI (sI T1 35 (nI la)) 36 (nI lb)) from EqT.rfl T1).trans b2.eqt).trans t1
              refine ⟨_, S', some P', _, ?_, rfl, m2, row2' m4' t2 (m5.trans t3.symm) (m6.trans t4.symm), k, hc0.congr m3' hET⟩
              rcases m1 with ⟨P, z1, z2⟩ | ⟨z1, z2⟩
              · refine Or.inl ⟨P, P', z1, rfl, ?_⟩
                unfold m_X8_bluff
                rw [e1, Option.bind_some, if_neg (show ¬ (1 : Int32) = 0 by decide), f1, Option.bind_some, if_neg (show ¬ (1 : Int32) = 0 by decide), if_neg hne, hif, z2, Option.bind_some]
              · refine Or.inr (Or.inr ⟨P', z1, rfl, ?_⟩)
                unfold m_X8_bluffB
                rw [e1, Option.bind_some, if_neg (show ¬ (1 : Int32) = 0 by decide), f1, Option.bind_some, if_neg (show ¬ (1 : Int32) = 0 by decide), if_neg hne, hif, z2]
            · have hr : ((if (sI T 0 0).2.1 11 0 = 2 ∧ (sI T 0 0).2.1 11 1 = 2 then (if wt (sI T 0 0) la = true ∧ wt (sI T 0 0) lb = true then 0 else -3) else -2) : Int32) = (if (sI T 0 0).2.1 11 0 = 2 ∧ (sI T 0 0).2.1 11 1 = 2 then -3 else -2) := by
                by_cases c1 : (sI T 0 0).2.1 11 0 = 2 ∧ (sI T 0 0).2.1 11 1 = 2
                · rw [if_pos c1, if_pos c1, if_neg (fun q => ok ⟨c1.1, c1.2, q.1, q.2⟩)]
                · rw [if_neg c1, if_neg c1]
              have hz : ¬ ((if (sI T 0 0).2.1 11 0 = 2 ∧ (sI T 0 0).2.1 11 1 = 2 then -3 else -2) : Int32) = 0 := by split <;> decide
              rw [hr, if_neg hz]
              refine ⟨_, S, oP, sI T 0 0, hno _ (fun P => ?_) ?_, rfl, hR.thr 0⟩
              · unfold m_X8_bluff
                rw [e1, Option.bind_some, if_neg (show ¬ (1 : Int32) = 0 by decide), f1, Option.bind_some, if_neg (show ¬ (1 : Int32) = 0 by decide), if_neg hne, hif, fight8 _ _ _ _ hv hla hlb]
                by_cases c1 : (sI T 0 0).2.1 11 0 = 2 ∧ (sI T 0 0).2.1 11 1 = 2
                · rw [if_pos c1, if_pos c1, if_neg (show ¬ (wt (sI T 0 0) la = true ∧ wt (sI T 0 0) lb = true) from fun q => ok ⟨c1.1, c1.2, q.1, q.2⟩), Option.bind_some]
                · rw [if_neg c1, if_neg c1, Option.bind_some]
              · unfold m_X8_bluffN
                rw [e1, Option.bind_some, if_neg (show ¬ (1 : Int32) = 0 by decide), f1, Option.bind_some, if_neg (show ¬ (1 : Int32) = 0 by decide), if_neg hne, hif, fightN8 _ _ _ hv hla hlb ok, Option.bind_some]
          · rw [i4, Option.bind_some, if_pos rfl]
            have hif : ∀ {α : Type} (x y : α), (if nI c < 0 then x else (if 2 < nI c then x else (if a4 < 0 then x else (if a4 ≤ 2 then y else x)))) = x := fun x y => by
              rw [if_neg (nI_pos (by omega)), if_neg (show ¬ 2 < nI c by rw [lit32 2, ltN (by omega) (by omega)]; omega)]
              by_cases q : a4 < 0
              · rw [if_pos q]
              · rw [if_neg q, if_neg]
                rcases i4' with z | z
                · exact absurd z q
                · rw [lt32] at z; rw [le32]; omega
            refine ⟨-1, S, oP, sI T 0 0, hno (-1) (fun P => ?_) ?_, rfl, hR.thr 0⟩
            · unfold m_X8_bluff
              rw [e1, Option.bind_some, if_neg (show ¬ (1 : Int32) = 0 by decide), f1, Option.bind_some, if_neg (show ¬ (1 : Int32) = 0 by decide), if_neg hne, hif]
            · unfold m_X8_bluffN
              rw [e1, Option.bind_some, if_neg (show ¬ (1 : Int32) = 0 by decide), f1, Option.bind_some, if_neg (show ¬ (1 : Int32) = 0 by decide), if_neg hne, hif]
        · rw [i3, Option.bind_some, if_pos rfl]
          have hif : ∀ {α : Type} (x y : α), (if a3 < 0 then x else (if 2 < a3 then x else y)) = x := fun x y => by
            by_cases q : a3 < 0
            · rw [if_pos q]
            · rw [if_neg q, if_pos]
              rcases i3' with z | z
              · exact absurd z q
              · exact z
          refine ⟨-1, S, oP, sI T 0 0, hno (-1) (fun P => ?_) ?_, rfl, hR.thr 0⟩
          · unfold m_X8_bluff
            rw [e1, Option.bind_some, if_neg (show ¬ (1 : Int32) = 0 by decide), f1, Option.bind_some, if_neg (show ¬ (1 : Int32) = 0 by decide), if_neg hne, hif]
          · unfold m_X8_bluffN
            rw [e1, Option.bind_some, if_neg (show ¬ (1 : Int32) = 0 by decide), f1, Option.bind_some, if_neg (show ¬ (1 : Int32) = 0 by decide), if_neg hne, hif]
    · rw [f2, Option.bind_some, if_pos rfl]
      refine ⟨-1, S, oP, sI T 0 0, hno (-1) (fun P => ?_) ?_, rfl, hR.thr 0⟩
      · unfold m_X8_bluff
        rw [e1, Option.bind_some, if_neg (show ¬ (1 : Int32) = 0 by decide), f1, Option.bind_some, if_pos rfl]
      · unfold m_X8_bluffN
        rw [e1, Option.bind_some, if_neg (show ¬ (1 : Int32) = 0 by decide), f1, Option.bind_some, if_pos rfl]
  · rw [e2, Option.bind_some, if_pos rfl]
    refine ⟨-1, S, oP, sI T 0 0, hno (-1) (fun P => ?_) ?_, rfl, hR.thr 0⟩
    · unfold m_X8_bluff
      rw [e1, Option.bind_some, if_pos rfl]
    · unfold m_X8_bluffN
      rw [e1, Option.bind_some, if_pos rfl]
