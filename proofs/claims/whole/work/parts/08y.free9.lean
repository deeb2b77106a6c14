/-! ===== layer B: the best load now; the reference ===== -/
/-- the value of the best loads now, and the load -/
def frN (T : St) (l lift round a d f o L : Nat) (bb : Nat → Nat) (out : Nat) (W : Nat → Nat) (e : Nat) : Nat × Nat :=
  if o = 1 then (out, 0)
  else if lift < 3 then
    (if a ≠ 0 ∧ L ≤ 40 then bst (fg (odN T l lift) out (fun b => fS (odN T l) out W (2 - lift) (sB bb lift + e + b)) (leftN round a d - 1) f (bb lift)) (40 - L) L
     else if bb lift = 0 then (out, 0)
     else if lift + 1 < 3 then bst (fg (odN T l (lift + 1)) out (fun b => fS (odN T l) out W (2 - (lift + 1)) (sB bb lift + e + bb lift + b)) 2 0 0) 39 1
     else (W (sB bb lift + e + bb lift), 0))
  else (W (sB bb lift + e), 0)
theorem lst_least {ib ab k l : Nat} {S T : St} (hv : VR ib ab k S T) (hl : l < k) (h0 : mt T l 0 ≠ 0) : itsI (T.2.1 11) l ≤ (lst T l).toInt := by
  obtain ⟨o0, o2, o3, _⟩ := hv.own hl
  have := its_int o2 o3
  unfold lst
  rw [if_neg h0]
  split
  · rw [mx_int]; omega
  · omega
def FrN (T T' : St) : Prop := (∀ i, i ≠ 33 → i ≠ 34 → T'.1 i = T.1 i) ∧ (∀ a, a ≠ 31 → a ≠ 32 → T'.2.1 a = T.2.1 a) ∧ T'.2.2 = T.2.2
theorem FrN.eqt {T T' : St} (h : FrN T T') : EqT T T' := ⟨⟨h.1 3 (by omega) (by omega), h.1 10 (by omega) (by omega), h.1 13 (by omega) (by omega), h.1 14 (by omega) (by omega), h.1 18 (by omega) (by omega)⟩, fun a _ _ => h.2.1 a (by omega) (by omega), h.2.1 11 (by omega) (by omega), h.2.1 15 (by omega) (by omega), h.2.1 17 (by omega) (by omega)⟩
theorem FrB.fn {T T' : St} (h : FrB T T') : FrN T T' := ⟨fun i a _ => h.1 i a, h.2.1, h.2.2⟩
theorem FrN.trans {S S' S2 : St} (h : FrN S S') (g : FrN S' S2) : FrN S S2 := ⟨fun i a b => (g.1 i a b).trans (h.1 i a b), fun i a b => (g.2.1 i a b).trans (h.2.1 i a b), g.2.2.trans h.2.2⟩
theorem FrN.set {T T' : St} (h : FrN T T') (v : Int32) : FrN T (sI T' 34 v) := ⟨fun i a b => (sI_ne b).trans (h.1 i a b), h.2.1, h.2.2⟩
/-- the load of the lift behind -/
theorem next9 {ib ab k l t s n : Nat} {S T : St} {W : Nat → Nat} (hv : VR ib ab k S T) (hl : l < k) (ht : t < 3) (hs : s ≤ 40 * t) (h28 : T.2.1 28 0 = nI (W 0)) (hWle : ∀ x, x ≤ 120 → W x ≤ 1000000) (hB : BehK (odN T l) (W 0) W T t) (hn : 200 ≤ n) :
    ∃ T', m_X9_nextLoadOf n T (nI l) (nI t) (nI s) = some T' ∧ FrN T T' ∧ T'.2.1 31 = T.2.1 31 ∧ T'.1 34 = nI (bst (fg (odN T l t) (W 0) (fun b => fS (odN T l) (W 0) W (2 - t) (s + b)) 2 0 0) 39 1).2 := by
  have hH := layH_of hv hl ht hs h28 hWle hB
  obtain ⟨T1, a1, a2, a3⟩ := lays9 (n := n) (fr := 0) hv hl ht hH (by omega) (by omega)
  have hch := choice9 (n := n) (r := 0) (f := 0) (L := 1) (b := 0) hv hl ht hH a2 (by omega) (by omega) (fun _ => rfl) (by omega) (by omega) (by omega) (by omega) (a3 1 (by omega) (by omega))
  rw [show (2 - 0 : Nat) = 2 from rfl, show (40 - 1 : Nat) = 39 from rfl] at hch
  generalize bst (fg (odN T l t) (W 0) (fun b => fS (odN T l) (W 0) W (2 - t) (s + b)) 2 0 0) 39 1 = P at hch ⊢
  refine ⟨sI (sI T1 33 (nI P.2)) 34 (nI P.2), ?_, ((a2.set _).fb.fn).set _, a2.2.1 31 (by omega), sI_eq⟩
  unfold m_X9_nextLoadOf
  rw [show m_X9_laysRounds n T (nI l) (nI t) 0 (nI s) = _ from a1, Option.bind_some, show m_X9_triesBest n T1 (nI l) (nI t) 0 0 1 0 = _ from hch, Option.bind_some, nmE, sI_eq]
theorem free9 {ib ab n k l lift round a d f o L : Nat} {bb : Nat → Nat} {S T : St} {W : Nat → Nat} (hv : VR ib ab k S T) (hl : l < k) (hN : Now T l lift round a d f o bb) (hL : a ≠ 0 → lst T l = nI L ∧ 1 ≤ L ∧ L ≤ 41) (hn : 400 ≤ n) (h28 : ∀ x, x ≤ 120 → T.2.1 28 x = nI (W x)) (hWle : ∀ x, x ≤ 120 → W x ≤ 1000000) :
    ∃ T', m_X9_freeNow n T (nI l) = some (nI (frN T l lift round a d f o L bb (W 0) W 0).1, T') ∧ FrN T T' ∧ T'.1 34 = nI (frN T l lift round a d f o L bb (W 0) W 0).2 := by
  have hk := hv.1
  have hleft := hN.left3
  have hsm := hN.smE
  obtain ⟨h1, h2, h3, h4, h5, h6, h7, h8, h9, h10, h11, h12, h13, h14, h15, h16, h17⟩ := id hN
  have hsb := sB_le (fun t ht => (h13 t ht).2) lift h1
  have hT1 : EqT T (sI T 34 0) := EqT.rfl T
  have hN1 : FrN T (sI T 34 0) := ⟨fun i _ b => sI_ne b, fun _ _ _ => rfl, rfl⟩
  have hz : (if mt (sI T 34 0) l 6 = 1 then (1 : Int32) else 0) = nI o := by
    rw [show mt (sI T 34 0) l 6 = nI o from h11]
    rcases (by omega : o = 0 ∨ o = 1) with q | q <;> subst q <;> rfl
  have hsm1 : m_X9_sumOf (sI T 34 0) (nI l) = some (nI (if o = 1 then 0 else sB bb 3)) := by
    rw [sum9 (by omega)]; exact congrArg some hsm
  unfold m_X9_freeNow frN
  rw [nmE, isOut_eq (by omega), hz, Option.bind_some, if0N (by omega)]
  by_cases co : o = 0
  · rw [if_pos co, if_neg (show ¬ o = 1 by omega), isOver_eq, show (sI T 34 0).2.1 11 0 = nI lift from h3, Option.bind_some, lit32 3, ifeqN (by omega) (by omega)]
    by_cases cl : lift < 3
    · rw [if_neg (show ¬ lift = 3 by omega), if_pos rfl, if_pos cl]
      have hv1 := hv.congrT hT1
      have hsa : m_X9_sumAhead n (sI T 34 0) (nI l) = some (nI (sB bb lift)) := by
        unfold m_X9_sumAhead
        rw [show m_X9_sumAhead_L4 n (sI T 34 0) (nI l) 0 0 = _ from sumAhead_L (T := sI T 34 0) (by omega) h1 h3 h13 lift 0 n (by omega) (by omega)]
        rfl
      obtain ⟨T2, b1, b2, b3⟩ := behind9 (n := n) hv1 hl cl h28 hWle (by omega)
      have hv2 := hv1.congrT b2.eqt
      have hod : odN (sI T 34 0) l = odN T l := odN_eqT hT1 l
      rw [hod] at b3
      have hod2 : odN T2 l = odN T l := (odN_eqT b2.eqt l).trans hod
      have h282 : T2.2.1 28 0 = nI (W 0) := by rw [b2.2.1 28 (by omega) (by omega)]; exact h28 0 (by omega)
      have hls : lst T2 l = lst T l := by unfold lst its mt; rw [b2.2.1 11 (by omega) (by omega)]; rfl
      have hN2 : FrN T T2 := hN1.trans b2.fn
      have e34 : T2.1 34 = 0 := by rw [b2.1 34 (by omega)]; exact sI_eq
      rw [show ∀ x : Option (Int32 × St), ck 0 63 x = x from fun x => rfl, show (0 : Int32).toNatClampNeg = 0 from rfl, show (sI T 34 0).2.1 11 0 = nI lift from h3, show (7 : Int32) + nI lift = nI (7 + lift) by rw [lit32 7, nI_add], of_eq (by omega) (by omega), show mt (sI T 34 0) l (7 + lift) = nI (bb lift) from (h13 lift cl).1, Option.bind_some, hsa, Option.bind_some, b1, Option.bind_some, least9 hv2.rt hl, hls, Option.bind_some]
      -- the lift has ended for the lifter
      have hend : ∃ T', (if nI (bb lift) = 0 then (ck 0 122 (some (T2.2.1 28 0, T2))) else (((if 2 ≤ nI lift then (some T2) else ((m_X9_nextLoadOf n T2 (nI l) (nI lift + 1) (nI (sB bb lift) + nI (bb lift))).bind (fun r28 => some r28)) : Option (St))).bind (fun q24 => (m_X9_ends q24 (nI lift) (nI (bb lift)) (nI (sB bb lift))).bind (fun r26 => some (r26, q24)))) : Option (Int32 × St)) = some (nI (if bb lift = 0 then (W 0, 0) else if lift + 1 < 3 then bst (fg (odN T l (lift + 1)) (W 0) (fun b => fS (odN T l) (W 0) W (2 - (lift + 1)) (sB bb lift + 0 + bb lift + b)) 2 0 0) 39 1 else (W (sB bb lift + 0 + bb lift), 0)).1, T') ∧ FrN T T' ∧ T'.1 34 = nI (if bb lift = 0 then (W 0, 0) else if lift + 1 < 3 then bst (fg (odN T l (lift + 1)) (W 0) (fun b => fS (odN T l) (W 0) W (2 - (lift + 1)) (sB bb lift + 0 + bb lift + b)) 2 0 0) 39 1 else (W (sB bb lift + 0 + bb lift), 0)).2 := by
        have hb40 := (h13 lift cl).2
        rw [if0N (by omega)]
        by_cases cb : bb lift = 0
        · rw [if_pos cb, if_pos cb, show ∀ x : Option (Int32 × St), ck 0 122 x = x from fun x => rfl, h282]
          exact ⟨T2, rfl, hN2, e34⟩
        · rw [if_neg cb, if_neg cb, lit32 2, ifleN (by omega) (by omega)]
          have hval : ∀ X : St, X.2.1 28 = T2.2.1 28 → X.2.1 31 = T2.2.1 31 → m_X9_ends X (nI lift) (nI (bb lift)) (nI (sB bb lift)) = some (nI (fS (odN T l) (W 0) W (2 - lift) (sB bb lift + bb lift))) := fun X e28 e31 => by
            rw [ends9 (D := odN T l) cl hsb hb40 (by rw [e28]; exact h282) (fun t' s' q1 q2 q3 => by rw [e31]; exact b3 t' s' q1 q2 q3)]
            unfold fE
            rw [if_neg cb]
          by_cases c2 : 2 ≤ lift
          · rw [if_pos c2, Option.bind_some, hval T2 rfl rfl, Option.bind_some, if_neg (show ¬ lift + 1 < 3 by omega)]
            refine ⟨T2, ?_, hN2, e34⟩
            rw [show 2 - lift = 0 by omega, Nat.add_zero]
            rfl
          · rw [if_neg c2, s1, nI_add, if_pos (show lift + 1 < 3 by omega)]
            obtain ⟨T3, d1, d2, d3, d4⟩ := next9 (n := n) (s := sB bb lift + bb lift) hv2 hl (show lift + 1 < 3 by omega) (by omega) h282 hWle (fun t' s' q1 q2 q3 => by rw [hod2]; exact b3 t' s' (by omega) q2 q3) (by omega)
            rw [d1, Option.bind_some, Option.bind_some, hval T3 (d2.2.1 28 (by omega) (by omega)) d3, Option.bind_some]
            refine ⟨T3, ?_, hN2.trans d2, ?_⟩
            · have : fS (odN T l) (W 0) W (2 - lift) (sB bb lift + bb lift) = (bst (fg (odN T l (lift + 1)) (W 0) (fun b => fS (odN T l) (W 0) W (2 - (lift + 1)) (sB bb lift + bb lift + b)) 2 0 0) 39 1).1 := by
                rw [show 2 - lift = (2 - (lift + 1)) + 1 by omega]
                show fv (odN T l (2 - (2 - (lift + 1)))) (W 0) (fun b => fS (odN T l) (W 0) W (2 - (lift + 1)) (sB bb lift + bb lift + b)) 3 0 1 0 = _
                rw [show 2 - (2 - (lift + 1)) = lift + 1 by omega, fv_go (by omega)]
              rw [this, show sB bb lift + 0 = sB bb lift from rfl]
            · rw [d4, hod2, show sB bb lift + 0 = sB bb lift from rfl]
      by_cases ca : a = 0
      · have hl0 : lst T l = 0 := by unfold lst; rw [if_pos (by rw [h5, ca]; rfl)]
        rw [hl0, if_pos rfl, if_neg (show ¬ (a ≠ 0 ∧ L ≤ 40) from fun q => q.1 ca)]
        exact hend
      · have hne : mt T l 0 ≠ 0 := by rw [h5, ne_eq, show (0 : Int32) = nI 0 from rfl, eqN (by omega) (by omega)]; exact ca
        obtain ⟨l3, l1, l2⟩ := hL ca
        have hits := lst_least hv hl hne
        obtain ⟨k1, k2, k3, k4, k5, k6, k7⟩ := h17 cl ca
        rw [l3, tiN (by omega)] at hits
        rw [l3, if0N (by omega), if_neg (show ¬ L = 0 by omega), Option.bind_some, lit32 40, ifleN (by omega) (by omega)]
        by_cases c40 : L ≤ 40
        · rw [if_pos c40, if_pos (show a ≠ 0 ∧ L ≤ 40 from ⟨ca, c40⟩)]
          have hrd : ∀ X : St, EqT T X → m_X9_roundOf X (nI l) = some (nI (round + d)) := fun X hX => by
            unfold m_X9_roundOf
            rw [show ∀ x : Option Int32, ck 1 63 x = x from fun x => rfl, of1 (by omega), show mt X l 1 = nI d by unfold mt; rw [hX.2.2.1]; exact h7, show (1 : Int32).toNatClampNeg = 1 from rfl, hX.2.2.1, h4, Option.bind_some, nI_add]
          have hH := layH_of (s := sB bb lift) hv2 hl cl hsb h282 hWle (by rw [hod2]; exact b3)
          obtain ⟨T3, d1, d2, d3⟩ := lays9 (n := n) (fr := round + d) hv2 hl cl hH (by omega) (by omega)
          have hN3 : FrN T T3 := hN2.trans d2.fb.fn
          have hch := choice9 (n := n) (r := round + d) (f := f) (L := L) (b := bb lift) hv2 hl cl hH d2 (by omega) (by omega) (fun q => k4 q) l1 c40 (by omega) (by omega) (d3 (round + d + 1) (by omega) (by omega))
          have hlf : leftN round a d - 1 = 2 - (round + d) := by unfold leftN; rw [if_neg ca]; omega
          rw [hod2] at hch
          rw [hlf, Nat.add_zero]
          generalize bst (fg (odN T l lift) (W 0) (fun b => fS (odN T l) (W 0) W (2 - lift) (sB bb lift + b)) (2 - (round + d)) f (bb lift)) (40 - L) L = P at hch ⊢
          rw [hrd T2 hN2.eqt, Option.bind_some, d1, Option.bind_some, hrd T3 hN3.eqt, Option.bind_some, of4 (by omega), show mt T3 l 4 = nI f by unfold mt; rw [hN3.eqt.2.2.1]; exact h9, Option.bind_some, least9 (hv2.congrT d2.eqt).rt hl, show lst T3 l = nI L by rw [← l3, ← hls]; unfold lst its mt; rw [d2.2.1 11 (by omega)], Option.bind_some, hch, Option.bind_some, nmE, sI_eq]
          exact ⟨_, rfl, ((hN2.trans (d2.set _).fb.fn)).set _, sI_eq⟩
        · rw [if_neg c40, if_neg (show ¬ (a ≠ 0 ∧ L ≤ 40) from fun q => c40 q.2)]
          exact hend
    · have hl3 : lift = 3 := by omega
      subst hl3
      rw [if_pos rfl, if_neg (show ¬ (1 : Int32) = 0 by decide), if_neg cl, hsm1, if_neg (show ¬ o = 1 by omega), Option.bind_some, ckN (by omega) (by omega), clN (by omega), show (sI T 34 0).2.1 28 = T.2.1 28 from rfl, h28 _ (by omega)]
      exact ⟨sI T 34 0, rfl, hN1, sI_eq⟩
  · rw [if_neg co, if_pos (show o = 1 by omega), hsm1, if_pos (show o = 1 by omega), Option.bind_some, ckN (by omega) (by omega), clN (by omega), show (sI T 34 0).2.1 28 = T.2.1 28 from rfl, h28 0 (by omega)]
    exact ⟨sI T 34 0, rfl, hN1, sI_eq⟩
