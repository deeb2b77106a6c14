def m_X3_oddsOf (S : St) (j : Nat) (p0 : Int32) (p1 : Int32) (p2 : Int32) : Option (Int32) :=
  if p0 < 0 then (some 0) else (if 3 ≤ p0 then (some 0) else (if p1 < 1 then (some 0) else (if p1 ≤ 40 then (ck ((p0 * 41) + p1) 123 (some (mx 0 ((S.2.1 (5 + 3 * j) ((p0 * 41) + p1).toNatClampNeg) - p2)))) else (some 0))))
set_option maxHeartbeats 4000000 in
set_option maxRecDepth 100000 in
theorem c_X3_oddsOf (l : Launch) (D : va_G) (cy : Nat → ClassId) (ad : Nat → Nat) (X : va_W) (S : St) (j : Nat) (p0 : Int32) (p1 : Int32) (p2 : Int32) (r : (Int32)) (h : m_X3_oddsOf S j p0 p1 p2 = some r) (hj : j < 7) : CT l yX3_oddsOf (wu yX3_oddsOf cX3_oddsOf 4 (some .int)) 1 D cy [.ref (ad (4 + 3 * j)), .int p0, .int p1, .int p2] (wC ad cy S ++ X) (some (.int r)) (wC ad cy S ++ X) := by
  refine CT.mk (cc := cX3_oddsOf) (maxL := 4) (ret := (some .int)) (own := RX3) (by decide) rfl rfl (Nat.le_of_ble_eq_true rfl) ?_
  intro p e s m args below meth c ls A Q hA hQ hC hr hk hW hl
  have hx := hC.1
  have hb := hC.2.1
  have hown := hC.2.2.2.1
  have hts := hC.2.2.2.2
  have hl : lv_has ls 4 [(0, .ref (ad (4 + 3 * j))), (1, .int p0), (2, .int p1), (3, .int p2)] := hl
  have f9 := hts _ (wu_in w_3_8)
  have i3 := (fun w h => wu_in (inc_3 w h) : ∀ w ∈ u_ws RX3 TX3 4, w ∈ (wu yX3_oddsOf cX3_oddsOf 4 (some .int)))
  have ml18 := hts _ (wu_in w_15_12)
  have msmax := hts _ (wu_in w_15_13)
  have mi := hts _ (wu_in w_15_14)
  have mcmax := hts _ (wu_in w_15_15)
  unfold m_X3_oddsOf at h
  refine lv_iload_n hx hb dX3_oddsOf_0 rfl (lv_at hl 1 rfl) ?_
  refine lv_if_lt (tgt := 20) hx hb dX3_oddsOf_1 (by decide) (fun c1 => ?_) (fun c1 => ?_)
  · replace h := ite_t h c1
    refine lv_iconst (v := 0) hx hb dX3_oddsOf_20 (by decide) ?_
    obtain rfl := Option.some.inj h
    exact wd_iret hA hQ hC hr hk hW dX3_oddsOf_21
  · replace h := ite_f h c1
    refine lv_iload_n hx hb dX3_oddsOf_4 rfl (lv_at hl 1 rfl) ?_
    refine lv_iconst (v := 3) hx hb dX3_oddsOf_5 (by decide) ?_
    refine lv_icmp_ge (tgt := 20) hx hb dX3_oddsOf_6 (by decide) (fun c2 => ?_) (fun c2 => ?_)
    · replace h := ite_t h c2
      refine lv_iconst (v := 0) hx hb dX3_oddsOf_20 (by decide) ?_
      obtain rfl := Option.some.inj h
      exact wd_iret hA hQ hC hr hk hW dX3_oddsOf_21
    · replace h := ite_f h c2
      refine lv_iload_n hx hb dX3_oddsOf_9 rfl (lv_at hl 2 rfl) ?_
      refine lv_iconst (v := 1) hx hb dX3_oddsOf_10 (by decide) ?_
      refine lv_icmp_lt (tgt := 20) hx hb dX3_oddsOf_11 (by decide) (fun c3 => ?_) (fun c3 => ?_)
      · replace h := ite_t h c3
        refine lv_iconst (v := 0) hx hb dX3_oddsOf_20 (by decide) ?_
        obtain rfl := Option.some.inj h
        exact wd_iret hA hQ hC hr hk hW dX3_oddsOf_21
      · replace h := ite_f h c3
        refine lv_iload_n hx hb dX3_oddsOf_14 rfl (lv_at hl 2 rfl) ?_
        refine lv_bipush (v := 40) hx hb dX3_oddsOf_15 (by decide) ?_
        refine lv_icmp_le (tgt := 22) hx hb dX3_oddsOf_17 (by decide) (fun c4 => ?_) (fun c4 => ?_)
        · replace h := ite_t h c4
          refine lv_iconst (v := 0) hx hb dX3_oddsOf_22 (by decide) ?_
          refine lv_aload_n hx hb dX3_oddsOf_23 rfl (lv_at hl 0 rfl) ?_
          refine wd_get hC i3 hW (4 + 3 * j) (wC_L hj) rfl 2 (Nat.le_of_ble_eq_true rfl) f9 rfl rfl dX3_oddsOf_24 ?_
          refine lv_iload_n hx hb dX3_oddsOf_27 rfl (lv_at hl 1 rfl) ?_
          refine lv_bipush (v := 41) hx hb dX3_oddsOf_28 (by decide) ?_
          refine lv_imul hx hb dX3_oddsOf_30 ?_
          refine lv_iload_n hx hb dX3_oddsOf_31 rfl (lv_at hl 2 rfl) ?_
          refine lv_iadd hx hb dX3_oddsOf_32 ?_
          obtain ⟨hi5, h⟩ := ck_of h
          refine wd_iald hC hW (5 + 3 * j) (wC_Lf hj) hi5 dX3_oddsOf_33 ?_
          refine lv_iload_n hx hb dX3_oddsOf_34 rfl (lv_at hl 3 rfl) ?_
          refine lv_isub hx hb dX3_oddsOf_35 ?_
          refine wd_max hC hl.1 ml18 msmax mi mcmax (Nat.le_of_ble_eq_true rfl) (Nat.le_of_ble_eq_true rfl) (Nat.zero_le _) (Nat.zero_le _) dX3_oddsOf_36 ?_
          obtain rfl := Option.some.inj h
          exact wd_iret hA hQ hC hr hk hW dX3_oddsOf_39
        · replace h := ite_f h c4
          refine lv_iconst (v := 0) hx hb dX3_oddsOf_20 (by decide) ?_
          obtain rfl := Option.some.inj h
          exact wd_iret hA hQ hC hr hk hW dX3_oddsOf_21
def m_X3_leadsLike (S : St) (j : Nat) (k0 : Nat) : Option (Int32) :=
  if (S.1 (10 + 2 * j)) = (S.1 (10 + 2 * k0)) then (if (S.1 (11 + 2 * k0)) ≤ (S.1 (11 + 2 * j)) then (some 0) else (some 1)) else (if (S.1 (10 + 2 * k0)) ≤ (S.1 (10 + 2 * j)) then (some 0) else (some 1))
set_option maxHeartbeats 4000000 in
set_option maxRecDepth 100000 in
theorem c_X3_leadsLike (l : Launch) (D : va_G) (cy : Nat → ClassId) (ad : Nat → Nat) (X : va_W) (S : St) (j : Nat) (k0 : Nat) (r : (Int32)) (h : m_X3_leadsLike S j k0 = some r) (hj : j < 7) (hk0 : k0 < 7) : CT l yX3_leadsLike (wu yX3_leadsLike cX3_leadsLike 2 (some .boolean)) 0 D cy [.ref (ad (4 + 3 * j)), .ref (ad (4 + 3 * k0))] (wC ad cy S ++ X) (some (.int r)) (wC ad cy S ++ X) := by
  refine CT.mk (cc := cX3_leadsLike) (maxL := 2) (ret := (some .boolean)) (own := RX3) (by decide) rfl rfl (Nat.le_of_ble_eq_true rfl) ?_
  intro p e s m args below meth c ls A Q hA hQ hC hr hk hW hl
  have hx := hC.1
  have hb := hC.2.1
  have hown := hC.2.2.2.1
  have hts := hC.2.2.2.2
  have hl : lv_has ls 2 [(0, .ref (ad (4 + 3 * j))), (1, .ref (ad (4 + 3 * k0)))] := hl
  have f24 := hts _ (wu_in w_23_10)
  have i3 := (fun w h => wu_in (inc_3 w h) : ∀ w ∈ u_ws RX3 TX3 4, w ∈ (wu yX3_leadsLike cX3_leadsLike 2 (some .boolean)))
  have f28 := hts _ (wu_in w_23_11)
  unfold m_X3_leadsLike at h
  refine lv_aload_n hx hb dX3_leadsLike_0 rfl (lv_at hl 0 rfl) ?_
  refine wd_get hC i3 hW (4 + 3 * j) (wC_L hj) rfl 0 (Nat.le_of_ble_eq_true rfl) f24 rfl rfl dX3_leadsLike_1 ?_
  refine lv_aload_n hx hb dX3_leadsLike_4 rfl (lv_at hl 1 rfl) ?_
  refine wd_get hC i3 hW (4 + 3 * k0) (wC_L hk0) rfl 0 (Nat.le_of_ble_eq_true rfl) f24 rfl rfl dX3_leadsLike_5 ?_
  refine lv_icmp_eq (tgt := 30) hx hb dX3_leadsLike_8 (by decide) (fun c1 => ?_) (fun c1 => ?_)
  · replace h := ite_t h c1
    refine lv_aload_n hx hb dX3_leadsLike_30 rfl (lv_at hl 0 rfl) ?_
    refine wd_get hC i3 hW (4 + 3 * j) (wC_L hj) rfl 1 (Nat.le_of_ble_eq_true rfl) f28 rfl rfl dX3_leadsLike_31 ?_
    refine lv_aload_n hx hb dX3_leadsLike_34 rfl (lv_at hl 1 rfl) ?_
    refine wd_get hC i3 hW (4 + 3 * k0) (wC_L hk0) rfl 1 (Nat.le_of_ble_eq_true rfl) f28 rfl rfl dX3_leadsLike_35 ?_
    refine lv_icmp_ge (tgt := 45) hx hb dX3_leadsLike_38 (by decide) (fun c2 => ?_) (fun c2 => ?_)
    · replace h := ite_t h c2
      refine lv_iconst (v := 0) hx hb dX3_leadsLike_45 (by decide) ?_
      obtain rfl := Option.some.inj h
      exact wd_zret hA hQ hC hr hk hW rfl dX3_leadsLike_46
    · replace h := ite_f h c2
      refine lv_iconst (v := 1) hx hb dX3_leadsLike_41 (by decide) ?_
      refine lv_goto (tgt := 46) hx hb dX3_leadsLike_42 (by decide) ?_
      obtain rfl := Option.some.inj h
      exact wd_zret hA hQ hC hr hk hW rfl dX3_leadsLike_46
  · replace h := ite_f h c1
    refine lv_aload_n hx hb dX3_leadsLike_11 rfl (lv_at hl 0 rfl) ?_
    refine wd_get hC i3 hW (4 + 3 * j) (wC_L hj) rfl 0 (Nat.le_of_ble_eq_true rfl) f24 rfl rfl dX3_leadsLike_12 ?_
    refine lv_aload_n hx hb dX3_leadsLike_15 rfl (lv_at hl 1 rfl) ?_
    refine wd_get hC i3 hW (4 + 3 * k0) (wC_L hk0) rfl 0 (Nat.le_of_ble_eq_true rfl) f24 rfl rfl dX3_leadsLike_16 ?_
    refine lv_icmp_ge (tgt := 26) hx hb dX3_leadsLike_19 (by decide) (fun c3 => ?_) (fun c3 => ?_)
    · replace h := ite_t h c3
      refine lv_iconst (v := 0) hx hb dX3_leadsLike_26 (by decide) ?_
      refine lv_goto (tgt := 46) hx hb dX3_leadsLike_27 (by decide) ?_
      obtain rfl := Option.some.inj h
      exact wd_zret hA hQ hC hr hk hW rfl dX3_leadsLike_46
    · replace h := ite_f h c3
      refine lv_iconst (v := 1) hx hb dX3_leadsLike_22 (by decide) ?_
      refine lv_goto (tgt := 46) hx hb dX3_leadsLike_23 (by decide) ?_
      obtain rfl := Option.some.inj h
      exact wd_zret hA hQ hC hr hk hW rfl dX3_leadsLike_46
def m_X3_clearTable_L2 : Nat → St → Nat → Int32 → Int32 → Option (St)
  | 0, _, _, _, _ => none
  | n + 1, S, x0, x1, x2 =>
    if 40 < x2 then (some S) else (ck ((x1 * 41) + x2) 123 (nm (sA S (5 + 3 * x0) ((x1 * 41) + x2).toNatClampNeg 0) (fun S5 => m_X3_clearTable_L2 n S5 x0 x1 (x2 + 1))))
theorem m_X3_clearTable_L2_0 (S : St) (x0 : Nat) (x1 : Int32) (x2 : Int32) : m_X3_clearTable_L2 0 S x0 x1 x2 = none := rfl
theorem m_X3_clearTable_L2_s {n : Nat} {S : St} {x0 : Nat} {x1 : Int32} {x2 : Int32} : m_X3_clearTable_L2 (n + 1) S x0 x1 x2 =
    (if 40 < x2 then (some S) else (ck ((x1 * 41) + x2) 123 (nm (sA S (5 + 3 * x0) ((x1 * 41) + x2).toNatClampNeg 0) (fun S5 => m_X3_clearTable_L2 n S5 x0 x1 (x2 + 1))))) := rfl
def m_X3_clearTable (n : Nat) (S : St) (j : Nat) (p0 : Int32) : Option (St) :=
  (m_X3_clearTable_L2 n S j p0 0).bind (fun q1 => some q1)
set_option maxHeartbeats 4000000 in
set_option maxRecDepth 100000 in
theorem c_X3_clearTable (l : Launch) (D : va_G) (cy : Nat → ClassId) (ad : Nat → Nat) (X : va_W) (n : Nat) (S : St) (j : Nat) (p0 : Int32) (r : (St)) (h : m_X3_clearTable n S j p0 = some r) (hj : j < 7) : CT l yX3_clearTable (wu yX3_clearTable cX3_clearTable 3 none) 0 D cy [.ref (ad (4 + 3 * j)), .int p0] (wC ad cy S ++ X) (none) (wC ad cy r ++ X) := by
  refine CT.mk (cc := cX3_clearTable) (maxL := 3) (ret := none) (own := RX3) (by decide) rfl rfl (Nat.le_of_ble_eq_true rfl) ?_
  intro p e s m args below meth c ls A Q hA hQ hC hr hk hW hl
  have hx := hC.1
  have hb := hC.2.1
  have hown := hC.2.2.2.1
  have hts := hC.2.2.2.2
  have hl : lv_has ls 3 [(0, .ref (ad (4 + 3 * j))), (1, .int p0)] := hl
  have f9 := hts _ (wu_in w_3_8)
  have i3 := (fun w h => wu_in (inc_3 w h) : ∀ w ∈ u_ws RX3 TX3 4, w ∈ (wu yX3_clearTable cX3_clearTable 3 none))
  unfold m_X3_clearTable at h
  refine lv_iconst (v := 0) hx hb dX3_clearTable_0 (by decide) ?_
  refine lv_istore_n (lv' := [(2, .int 0), (0, .ref (ad (4 + 3 * j))), (1, .int p0)]) hx hb dX3_clearTable_1 rfl hl (by decide) rfl (fun ls hl => ?_)
  have hL2 : ∀ (n : Nat) (S : St) (x0 : Nat) (x1 : Int32) (x2 : Int32) (hx0 : x0 < 7) (H : Heap) (locs : List Loc) (ls : Array Slot) (r : (St)), m_X3_clearTable_L2 n S x0 x1 x2 = some r → Wd D cy A s (wC ad cy S ++ X) H locs → lv_has ls 3 [(0, .ref (ad (4 + 3 * x0))), (1, .int x1), (2, .int x2)] → (∀ (H : Heap) (locs : List Loc) (ls : Array Slot), Wd D cy A s (wC ad cy r ++ X) H locs → lv_has ls 3 [(0, .ref (ad (4 + 3 * x0))), (1, .int x1)] → W p l e (RM 0) s m args below meth c H locs 0 0 Q (F0 m 26 ls [])) → W p l e (RM 0) s m args below meth c H locs 0 0 Q (F0 m 2 ls []) := by
    intro n
    induction n with
    | zero =>
      intro S x0 x1 x2 hx0 H locs ls r h
      exact absurd (h.symm.trans (m_X3_clearTable_L2_0 ..)) (by simp)
    | succ n ih =>
      intro S x0 x1 x2 hx0 H locs ls r h hW hl kk
      rw [m_X3_clearTable_L2_s] at h
      refine lv_iload_n hx hb dX3_clearTable_2 rfl (lv_at hl 2 rfl) ?_
      refine lv_bipush (v := 40) hx hb dX3_clearTable_3 (by decide) ?_
      refine lv_icmp_gt (tgt := 26) hx hb dX3_clearTable_5 (by decide) (fun c3 => ?_) (fun c3 => ?_)
      · replace h := ite_t h c3
        obtain rfl := Option.some.inj h
        exact kk _ _ _ hW (lv_sub hl [0, 1] rfl)
      · replace h := ite_f h c3
        refine lv_aload_n hx hb dX3_clearTable_8 rfl (lv_at hl 0 rfl) ?_
        refine wd_get hC i3 hW (4 + 3 * x0) (wC_L hx0) rfl 2 (Nat.le_of_ble_eq_true rfl) f9 rfl rfl dX3_clearTable_9 ?_
        refine lv_iload_n hx hb dX3_clearTable_12 rfl (lv_at hl 1 rfl) ?_
        refine lv_bipush (v := 41) hx hb dX3_clearTable_13 (by decide) ?_
        refine lv_imul hx hb dX3_clearTable_15 ?_
        refine lv_iload_n hx hb dX3_clearTable_16 rfl (lv_at hl 2 rfl) ?_
        refine lv_iadd hx hb dX3_clearTable_17 ?_
        refine lv_iconst (v := 0) hx hb dX3_clearTable_18 (by decide) ?_
        obtain ⟨hi4, h⟩ := ck_of h
        refine wd_iast hC hW (5 + 3 * x0) (wC_Lf hx0) hi4 (wC_Lf_t hx0) dX3_clearTable_19 (fun H locs hW => ?_)
        obtain ⟨S5, e6, h⟩ := nm_of h
        replace hW := wq_S e6 hW
        refine lv_iinc (v := x2 + 1) (lv' := [(2, .int (x2 + 1)), (0, .ref (ad (4 + 3 * x0))), (1, .int x1)]) hx hb dX3_clearTable_20 hl (k := 2) rfl rfl (by decide) rfl (fun ls hl => ?_)
        refine lv_goto (tgt := 2) hx hb dX3_clearTable_23 (by decide) ?_
        exact ih S5 x0 x1 (x2 + 1) hx0 _ _ _ r h hW (lv_sub hl [1, 2, 0] rfl) kk
  obtain ⟨q1, hq2, h⟩ := bd_of h
  refine hL2 n S j p0 0 hj _ _ _ q1 hq2 hW (lv_sub hl [1, 2, 0] rfl) (fun H locs ls hW hl => ?_)
  obtain rfl := Option.some.inj h
  exact wd_vret hA hQ hC hr hk hW dX3_clearTable_26
def m_X3_spread_L17 : Nat → St → Nat → Int32 → Int32 → Int32 → Int32 → Int32 → Int32 → Int32 → Option (St)
  | 0, _, _, _, _, _, _, _, _, _ => none
  | n + 1, S, x0, x1, x2, x3, x4, x5, x6, x7 =>
    if x4 < x7 then (some S) else (if 40 < x7 then (some S) else (ckd x6 (ck ((x1 * 41) + x7) 123 (nm (sA S (5 + 3 * x0) ((x1 * 41) + x7).toNatClampNeg (x3 - (((x3 - x5) * (x7 - x2)) / x6))) (fun S8 => m_X3_spread_L17 n S8 x0 x1 x2 x3 x4 x5 x6 (x7 + 1))))))
theorem m_X3_spread_L17_0 (S : St) (x0 : Nat) (x1 : Int32) (x2 : Int32) (x3 : Int32) (x4 : Int32) (x5 : Int32) (x6 : Int32) (x7 : Int32) : m_X3_spread_L17 0 S x0 x1 x2 x3 x4 x5 x6 x7 = none := rfl
theorem m_X3_spread_L17_s {n : Nat} {S : St} {x0 : Nat} {x1 : Int32} {x2 : Int32} {x3 : Int32} {x4 : Int32} {x5 : Int32} {x6 : Int32} {x7 : Int32} : m_X3_spread_L17 (n + 1) S x0 x1 x2 x3 x4 x5 x6 x7 =
    (if x4 < x7 then (some S) else (if 40 < x7 then (some S) else (ckd x6 (ck ((x1 * 41) + x7) 123 (nm (sA S (5 + 3 * x0) ((x1 * 41) + x7).toNatClampNeg (x3 - (((x3 - x5) * (x7 - x2)) / x6))) (fun S8 => m_X3_spread_L17 n S8 x0 x1 x2 x3 x4 x5 x6 (x7 + 1))))))) := rfl
def m_X3_spread (n : Nat) (S : St) (j : Nat) (p0 : Int32) (p1 : Int32) (p2 : Int32) (p3 : Int32) (p4 : Int32) : Option (St) :=
  if 0 < (p3 - p1) then ((m_X3_spread_L17 n S j p0 p1 p2 p3 p4 (p3 - p1) (p1 + 1)).bind (fun q2 => some q2)) else (some S)
set_option maxHeartbeats 4000000 in
set_option maxRecDepth 100000 in
theorem c_X3_spread (l : Launch) (D : va_G) (cy : Nat → ClassId) (ad : Nat → Nat) (X : va_W) (n : Nat) (S : St) (j : Nat) (p0 : Int32) (p1 : Int32) (p2 : Int32) (p3 : Int32) (p4 : Int32) (r : (St)) (h : m_X3_spread n S j p0 p1 p2 p3 p4 = some r) (hj : j < 7) : CT l yX3_spread (wu yX3_spread cX3_spread 8 none) 0 D cy [.ref (ad (4 + 3 * j)), .int p0, .int p1, .int p2, .int p3, .int p4] (wC ad cy S ++ X) (none) (wC ad cy r ++ X) := by
  refine CT.mk (cc := cX3_spread) (maxL := 8) (ret := none) (own := RX3) (by decide) rfl rfl (Nat.le_of_ble_eq_true rfl) ?_
  intro p e s m args below meth c ls A Q hA hQ hC hr hk hW hl
  have hx := hC.1
  have hb := hC.2.1
  have hown := hC.2.2.2.1
  have hts := hC.2.2.2.2
  have hl : lv_has ls 8 [(0, .ref (ad (4 + 3 * j))), (1, .int p0), (2, .int p1), (3, .int p2), (4, .int p3), (5, .int p4)] := hl
  have f9 := hts _ (wu_in w_3_8)
  have i3 := (fun w h => wu_in (inc_3 w h) : ∀ w ∈ u_ws RX3 TX3 4, w ∈ (wu yX3_spread cX3_spread 8 none))
  unfold m_X3_spread at h
  refine lv_iload hx hb dX3_spread_0 (lv_at hl 4 rfl) ?_
  refine lv_iload_n hx hb dX3_spread_2 rfl (lv_at hl 2 rfl) ?_
  refine lv_isub hx hb dX3_spread_3 ?_
  refine lv_istore (lv' := [(6, .int (p3 - p1)), (0, .ref (ad (4 + 3 * j))), (1, .int p0), (2, .int p1), (3, .int p2), (4, .int p3), (5, .int p4)]) hx hb dX3_spread_4 hl (by decide) rfl (fun ls hl => ?_)
  refine lv_iload hx hb dX3_spread_6 (lv_at hl 0 rfl) ?_
  refine lv_if_gt (tgt := 12) hx hb dX3_spread_8 (by decide) (fun c1 => ?_) (fun c1 => ?_)
  · replace h := ite_t h c1
    refine lv_iload_n hx hb dX3_spread_12 rfl (lv_at hl 3 rfl) ?_
    refine lv_iconst (v := 1) hx hb dX3_spread_13 (by decide) ?_
    refine lv_iadd hx hb dX3_spread_14 ?_
    refine lv_istore (lv' := [(7, .int (p1 + 1)), (6, .int (p3 - p1)), (0, .ref (ad (4 + 3 * j))), (1, .int p0), (2, .int p1), (3, .int p2), (4, .int p3), (5, .int p4)]) hx hb dX3_spread_15 hl (by decide) rfl (fun ls hl => ?_)
    have hL17 : ∀ (n : Nat) (S : St) (x0 : Nat) (x1 : Int32) (x2 : Int32) (x3 : Int32) (x4 : Int32) (x5 : Int32) (x6 : Int32) (x7 : Int32) (hx0 : x0 < 7) (H : Heap) (locs : List Loc) (ls : Array Slot) (r : (St)), m_X3_spread_L17 n S x0 x1 x2 x3 x4 x5 x6 x7 = some r → Wd D cy A s (wC ad cy S ++ X) H locs → lv_has ls 8 [(0, .ref (ad (4 + 3 * x0))), (1, .int x1), (2, .int x2), (3, .int x3), (4, .int x4), (5, .int x5), (6, .int x6), (7, .int x7)] → (∀ (H : Heap) (locs : List Loc) (ls : Array Slot), Wd D cy A s (wC ad cy r ++ X) H locs → lv_has ls 8 [(0, .ref (ad (4 + 3 * x0))), (1, .int x1), (2, .int x2), (3, .int x3), (4, .int x4), (5, .int x5), (6, .int x6)] → W p l e (RM 0) s m args below meth c H locs 0 0 Q (F0 m 63 ls [])) → W p l e (RM 0) s m args below meth c H locs 0 0 Q (F0 m 17 ls []) := by
      intro n
      induction n with
      | zero =>
        intro S x0 x1 x2 x3 x4 x5 x6 x7 hx0 H locs ls r h
        exact absurd (h.symm.trans (m_X3_spread_L17_0 ..)) (by simp)
      | succ n ih =>
        intro S x0 x1 x2 x3 x4 x5 x6 x7 hx0 H locs ls r h hW hl kk
        rw [m_X3_spread_L17_s] at h
        refine lv_iload hx hb dX3_spread_17 (lv_at hl 7 rfl) ?_
        refine lv_iload hx hb dX3_spread_19 (lv_at hl 4 rfl) ?_
        refine lv_icmp_gt (tgt := 63) hx hb dX3_spread_21 (by decide) (fun c4 => ?_) (fun c4 => ?_)
        · replace h := ite_t h c4
          obtain rfl := Option.some.inj h
          exact kk _ _ _ hW (lv_sub hl [0, 1, 2, 3, 4, 5, 6] rfl)
        · replace h := ite_f h c4
          refine lv_iload hx hb dX3_spread_24 (lv_at hl 7 rfl) ?_
          refine lv_bipush (v := 40) hx hb dX3_spread_26 (by decide) ?_
          refine lv_icmp_gt (tgt := 63) hx hb dX3_spread_28 (by decide) (fun c5 => ?_) (fun c5 => ?_)
          · replace h := ite_t h c5
            obtain rfl := Option.some.inj h
            exact kk _ _ _ hW (lv_sub hl [0, 1, 2, 3, 4, 5, 6] rfl)
          · replace h := ite_f h c5
            refine lv_aload_n hx hb dX3_spread_31 rfl (lv_at hl 0 rfl) ?_
            refine wd_get hC i3 hW (4 + 3 * x0) (wC_L hx0) rfl 2 (Nat.le_of_ble_eq_true rfl) f9 rfl rfl dX3_spread_32 ?_
            refine lv_iload_n hx hb dX3_spread_35 rfl (lv_at hl 1 rfl) ?_
            refine lv_bipush (v := 41) hx hb dX3_spread_36 (by decide) ?_
            refine lv_imul hx hb dX3_spread_38 ?_
            refine lv_iload hx hb dX3_spread_39 (lv_at hl 7 rfl) ?_
            refine lv_iadd hx hb dX3_spread_41 ?_
            refine lv_iload_n hx hb dX3_spread_42 rfl (lv_at hl 3 rfl) ?_
            refine lv_iload_n hx hb dX3_spread_43 rfl (lv_at hl 3 rfl) ?_
            refine lv_iload hx hb dX3_spread_44 (lv_at hl 5 rfl) ?_
            refine lv_isub hx hb dX3_spread_46 ?_
            refine lv_iload hx hb dX3_spread_47 (lv_at hl 7 rfl) ?_
            refine lv_iload_n hx hb dX3_spread_49 rfl (lv_at hl 2 rfl) ?_
            refine lv_isub hx hb dX3_spread_50 ?_
            refine lv_imul hx hb dX3_spread_51 ?_
            refine lv_iload hx hb dX3_spread_52 (lv_at hl 6 rfl) ?_
            obtain ⟨hd6, h⟩ := ckd_of h
            refine lv_idiv hx hb dX3_spread_54 hd6 ?_
            refine lv_isub hx hb dX3_spread_55 ?_
            obtain ⟨hi7, h⟩ := ck_of h
            refine wd_iast hC hW (5 + 3 * x0) (wC_Lf hx0) hi7 (wC_Lf_t hx0) dX3_spread_56 (fun H locs hW => ?_)
            obtain ⟨S8, e9, h⟩ := nm_of h
            replace hW := wq_S e9 hW
            refine lv_iinc (v := x7 + 1) (lv' := [(7, .int (x7 + 1)), (0, .ref (ad (4 + 3 * x0))), (1, .int x1), (2, .int x2), (3, .int x3), (4, .int x4), (5, .int x5), (6, .int x6)]) hx hb dX3_spread_57 hl (k := 7) rfl rfl (by decide) rfl (fun ls hl => ?_)
            refine lv_goto (tgt := 17) hx hb dX3_spread_60 (by decide) ?_
            exact ih S8 x0 x1 x2 x3 x4 x5 x6 (x7 + 1) hx0 _ _ _ r h hW (lv_sub hl [1, 2, 3, 4, 5, 6, 7, 0] rfl) kk
    obtain ⟨q2, hq3, h⟩ := bd_of h
    refine hL17 n S j p0 p1 p2 p3 p4 (p3 - p1) (p1 + 1) hj _ _ _ q2 hq3 hW (lv_sub hl [2, 3, 4, 5, 6, 7, 1, 0] rfl) (fun H locs ls hW hl => ?_)
    obtain rfl := Option.some.inj h
    exact wd_vret hA hQ hC hr hk hW dX3_spread_63
  · replace h := ite_f h c1
    obtain rfl := Option.some.inj h
    exact wd_vret hA hQ hC hr hk hW dX3_spread_11
