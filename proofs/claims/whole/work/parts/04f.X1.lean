theorem hdX1_fieldOf : yX1_fieldOf.cls ≠ "java/lang/invoke/MethodHandle" ∧ yX1_fieldOf.cls ≠ "java/lang/invoke/VarHandle" ∧ (parseMethodDescriptor yX1_fieldOf.desc).map (fun d => d.parameters.length) = some 2 := by decide +kernel
theorem hdX1_fillField : yX1_fillField.cls = RX1 ∧ yX1_fillField.cls ≠ "java/lang/invoke/MethodHandle" ∧ yX1_fillField.cls ≠ "java/lang/invoke/VarHandle" ∧ (parseMethodDescriptor yX1_fillField.desc).map (fun d => d.parameters.length) = some 2 := by decide +kernel
theorem hdX1_fillSecond : yX1_fillSecond.cls = RX1 ∧ yX1_fillSecond.cls ≠ "java/lang/invoke/MethodHandle" ∧ yX1_fillSecond.cls ≠ "java/lang/invoke/VarHandle" ∧ (parseMethodDescriptor yX1_fillSecond.desc).map (fun d => d.parameters.length) = some 0 := by decide +kernel
theorem hdX1_firstCalled : yX1_firstCalled.cls = RX1 ∧ yX1_firstCalled.cls ≠ "java/lang/invoke/MethodHandle" ∧ yX1_firstCalled.cls ≠ "java/lang/invoke/VarHandle" ∧ (parseMethodDescriptor yX1_firstCalled.desc).map (fun d => d.parameters.length) = some 0 := by decide +kernel
theorem hdX1_isFirst : yX1_isFirst.cls = RX1 ∧ yX1_isFirst.cls ≠ "java/lang/invoke/MethodHandle" ∧ yX1_isFirst.cls ≠ "java/lang/invoke/VarHandle" ∧ (parseMethodDescriptor yX1_isFirst.desc).map (fun d => d.parameters.length) = some 2 := by decide +kernel
theorem hdX1_outcome : yX1_outcome.cls = RX1 ∧ yX1_outcome.cls ≠ "java/lang/invoke/MethodHandle" ∧ yX1_outcome.cls ≠ "java/lang/invoke/VarHandle" ∧ (parseMethodDescriptor yX1_outcome.desc).map (fun d => d.parameters.length) = some 2 := by decide +kernel
theorem hdX1_valueAt : yX1_valueAt.cls = RX1 ∧ yX1_valueAt.cls ≠ "java/lang/invoke/MethodHandle" ∧ yX1_valueAt.cls ≠ "java/lang/invoke/VarHandle" ∧ (parseMethodDescriptor yX1_valueAt.desc).map (fun d => d.parameters.length) = some 2 := by decide +kernel
theorem hdX1_valueOfTry : yX1_valueOfTry.cls = RX1 ∧ yX1_valueOfTry.cls ≠ "java/lang/invoke/MethodHandle" ∧ yX1_valueOfTry.cls ≠ "java/lang/invoke/VarHandle" ∧ (parseMethodDescriptor yX1_valueOfTry.desc).map (fun d => d.parameters.length) = some 4 := by decide +kernel
def m_X1_outcome (S : St) (P : St) (p0 : Int32) (p1 : Int32) : Option (Int32) :=
  if p0 = 0 then (some 0) else (if p0 = p1 then (if (P.1 70) = 0 then (some 0) else (some 1000000)) else (if p0 ≤ p1 then (some 0) else (some 1000000)))
set_option maxHeartbeats 4000000 in
set_option maxRecDepth 100000 in
theorem c_X1_outcome (l : Launch) (D : va_G) (cy : Nat → ClassId) (ad : Nat → Nat) (X : va_W) (S : St) (P : St) (p0 : Int32) (p1 : Int32) (r : (Int32)) (h : m_X1_outcome S P p0 p1 = some r) : CT l yX1_outcome (wu yX1_outcome cX1_outcome 3 (some .int)) 0 D cy [.ref (ad 81), .int p0, .int p1] (wC ad cy S ++ (wP ad cy P ++ X)) (some (.int r)) (wC ad cy S ++ (wP ad cy P ++ X)) := by
  refine CT.mk (cc := cX1_outcome) (maxL := 3) (ret := (some .int)) (own := RX1) (by decide) rfl rfl (Nat.le_of_ble_eq_true rfl) ?_
  intro p e s m args below meth c ls A Q hA hQ hC hr hk hW hl
  have hx := hC.1
  have hb := hC.2.1
  have hown := hC.2.2.2.1
  have hts := hC.2.2.2.2
  have hl : lv_has ls 3 [(0, .ref (ad 81)), (1, .int p0), (2, .int p1)] := hl
  have k95 := hts _ (wu_in w_44_14)
  have f11 := hts _ (wu_in w_43_6)
  have i1 := (fun w h => wu_in (inc_1 w h) : ∀ w ∈ u_ws RX1 TX1 16, w ∈ (wu yX1_outcome cX1_outcome 3 (some .int)))
  unfold m_X1_outcome at h
  refine lv_iload_n hx hb dX1_outcome_0 rfl (lv_at hl 1 rfl) ?_
  refine lv_if_ne (tgt := 6) hx hb dX1_outcome_1 (by decide) (fun c1 => ?_) (fun c1 => ?_)
  · replace h := ite_f h c1
    refine lv_iload_n hx hb dX1_outcome_6 rfl (lv_at hl 1 rfl) ?_
    refine lv_iload_n hx hb dX1_outcome_7 rfl (lv_at hl 2 rfl) ?_
    refine lv_icmp_ne (tgt := 25) hx hb dX1_outcome_8 (by decide) (fun c2 => ?_) (fun c2 => ?_)
    · replace h := ite_f h c2
      refine lv_iload_n hx hb dX1_outcome_25 rfl (lv_at hl 1 rfl) ?_
      refine lv_iload_n hx hb dX1_outcome_26 rfl (lv_at hl 2 rfl) ?_
      refine lv_icmp_le (tgt := 35) hx hb dX1_outcome_27 (by decide) (fun c3 => ?_) (fun c3 => ?_)
      · replace h := ite_t h c3
        refine lv_iconst (v := 0) hx hb dX1_outcome_35 (by decide) ?_
        obtain rfl := Option.some.inj h
        exact wd_iret hA hQ hC hr hk hW dX1_outcome_36
      · replace h := ite_f h c3
        refine lv_ldc hx hb hown k95 dX1_outcome_30 ?_
        refine lv_goto (tgt := 36) hx hb dX1_outcome_32 (by decide) ?_
        obtain rfl := Option.some.inj h
        exact wd_iret hA hQ hC hr hk hW dX1_outcome_36
    · replace h := ite_t h c2
      refine lv_aload_n hx hb dX1_outcome_11 rfl (lv_at hl 0 rfl) ?_
      refine wd_get hC i1 hW 59 wP_c81 rfl 0 (Nat.le_of_ble_eq_true rfl) f11 rfl rfl dX1_outcome_12 ?_
      refine lv_if_eq (tgt := 23) hx hb dX1_outcome_15 (by decide) (fun c4 => ?_) (fun c4 => ?_)
      · replace h := ite_t h c4
        refine lv_iconst (v := 0) hx hb dX1_outcome_23 (by decide) ?_
        obtain rfl := Option.some.inj h
        exact wd_iret hA hQ hC hr hk hW dX1_outcome_24
      · replace h := ite_f h c4
        refine lv_ldc hx hb hown k95 dX1_outcome_18 ?_
        refine lv_goto (tgt := 24) hx hb dX1_outcome_20 (by decide) ?_
        obtain rfl := Option.some.inj h
        exact wd_iret hA hQ hC hr hk hW dX1_outcome_24
  · replace h := ite_t h c1
    refine lv_iconst (v := 0) hx hb dX1_outcome_4 (by decide) ?_
    obtain rfl := Option.some.inj h
    exact wd_iret hA hQ hC hr hk hW dX1_outcome_5
def m_X1_isFirst (S : St) (P : St) (p0 : Int32) (p1 : Int32) : Option (Int32) :=
  if p0 = p1 then (ckb (P.1 71) (some (P.1 71))) else (if p1 ≤ p0 then (some 0) else (some 1))
set_option maxHeartbeats 4000000 in
set_option maxRecDepth 100000 in
theorem c_X1_isFirst (l : Launch) (D : va_G) (cy : Nat → ClassId) (ad : Nat → Nat) (X : va_W) (S : St) (P : St) (p0 : Int32) (p1 : Int32) (r : (Int32)) (h : m_X1_isFirst S P p0 p1 = some r) : CT l yX1_isFirst (wu yX1_isFirst cX1_isFirst 3 (some .boolean)) 0 D cy [.ref (ad 81), .int p0, .int p1] (wC ad cy S ++ (wP ad cy P ++ X)) (some (.int r)) (wC ad cy S ++ (wP ad cy P ++ X)) := by
  refine CT.mk (cc := cX1_isFirst) (maxL := 3) (ret := (some .boolean)) (own := RX1) (by decide) rfl rfl (Nat.le_of_ble_eq_true rfl) ?_
  intro p e s m args below meth c ls A Q hA hQ hC hr hk hW hl
  have hx := hC.1
  have hb := hC.2.1
  have hown := hC.2.2.2.1
  have hts := hC.2.2.2.2
  have hl : lv_has ls 3 [(0, .ref (ad 81)), (1, .int p0), (2, .int p1)] := hl
  have f15 := hts _ (wu_in w_43_7)
  have i1 := (fun w h => wu_in (inc_1 w h) : ∀ w ∈ u_ws RX1 TX1 16, w ∈ (wu yX1_isFirst cX1_isFirst 3 (some .boolean)))
  unfold m_X1_isFirst at h
  refine lv_iload_n hx hb dX1_isFirst_0 rfl (lv_at hl 1 rfl) ?_
  refine lv_iload_n hx hb dX1_isFirst_1 rfl (lv_at hl 2 rfl) ?_
  refine lv_icmp_eq (tgt := 18) hx hb dX1_isFirst_2 (by decide) (fun c1 => ?_) (fun c1 => ?_)
  · replace h := ite_t h c1
    refine lv_aload_n hx hb dX1_isFirst_18 rfl (lv_at hl 0 rfl) ?_
    refine wd_get hC i1 hW 59 wP_c81 rfl 1 (Nat.le_of_ble_eq_true rfl) f15 rfl rfl dX1_isFirst_19 ?_
    obtain ⟨hb2, h⟩ := ckb_of h
    obtain rfl := Option.some.inj h
    exact wd_zret hA hQ hC hr hk hW (ckb_nar hb2) dX1_isFirst_22
  · replace h := ite_f h c1
    refine lv_iload_n hx hb dX1_isFirst_5 rfl (lv_at hl 1 rfl) ?_
    refine lv_iload_n hx hb dX1_isFirst_6 rfl (lv_at hl 2 rfl) ?_
    refine lv_icmp_ge (tgt := 14) hx hb dX1_isFirst_7 (by decide) (fun c3 => ?_) (fun c3 => ?_)
    · replace h := ite_t h c3
      refine lv_iconst (v := 0) hx hb dX1_isFirst_14 (by decide) ?_
      refine lv_goto (tgt := 22) hx hb dX1_isFirst_15 (by decide) ?_
      obtain rfl := Option.some.inj h
      exact wd_zret hA hQ hC hr hk hW rfl dX1_isFirst_22
    · replace h := ite_f h c3
      refine lv_iconst (v := 1) hx hb dX1_isFirst_10 (by decide) ?_
      refine lv_goto (tgt := 22) hx hb dX1_isFirst_11 (by decide) ?_
      obtain rfl := Option.some.inj h
      exact wd_zret hA hQ hC hr hk hW rfl dX1_isFirst_22
def m_X1_firstCalled (S : St) (P : St) : Option (Int32) :=
  (m_X1_isFirst S P (P.1 72) (P.1 73)).bind (fun r1 => ckb r1 (some r1))
set_option maxHeartbeats 4000000 in
set_option maxRecDepth 100000 in
theorem c_X1_firstCalled (l : Launch) (D : va_G) (cy : Nat → ClassId) (ad : Nat → Nat) (X : va_W) (S : St) (P : St) (r : (Int32)) (h : m_X1_firstCalled S P = some r) : CT l yX1_firstCalled (wu yX1_firstCalled cX1_firstCalled 1 (some .boolean)) 1 D cy [.ref (ad 81)] (wC ad cy S ++ (wP ad cy P ++ X)) (some (.int r)) (wC ad cy S ++ (wP ad cy P ++ X)) := by
  refine CT.mk (cc := cX1_firstCalled) (maxL := 1) (ret := (some .boolean)) (own := RX1) (by decide) rfl rfl (Nat.le_of_ble_eq_true rfl) ?_
  intro p e s m args below meth c ls A Q hA hQ hC hr hk hW hl
  have hx := hC.1
  have hb := hC.2.1
  have hown := hC.2.2.2.1
  have hts := hC.2.2.2.2
  have hl : lv_has ls 1 [(0, .ref (ad 81))] := hl
  have f18 := hts _ (wu_in w_43_8)
  have i1 := (fun w h => wu_in (inc_1 w h) : ∀ w ∈ u_ws RX1 TX1 16, w ∈ (wu yX1_firstCalled cX1_firstCalled 1 (some .boolean)))
  have f22 := hts _ (wu_in w_43_9)
  unfold m_X1_firstCalled at h
  refine lv_aload_n hx hb dX1_firstCalled_0 rfl (lv_at hl 0 rfl) ?_
  refine lv_aload_n hx hb dX1_firstCalled_1 rfl (lv_at hl 0 rfl) ?_
  refine wd_get hC i1 hW 59 wP_c81 rfl 2 (Nat.le_of_ble_eq_true rfl) f18 rfl rfl dX1_firstCalled_2 ?_
  refine lv_aload_n hx hb dX1_firstCalled_5 rfl (lv_at hl 0 rfl) ?_
  refine wd_get hC i1 hW 59 wP_c81 rfl 3 (Nat.le_of_ble_eq_true rfl) f22 rfl rfl dX1_firstCalled_6 ?_
  obtain ⟨r1, hr2, h⟩ := bd_of h
  refine wd_callV1 (As := [.int (P.1 72), .int (P.1 73)]) hC hW 59 wP_c81 rfl (c_X1_isFirst l D cy ad X S P (P.1 72) (P.1 73) r1 hr2) (cwV 2 hts (gu_V w_45_17 w_45_14 w_45_15 w_45_16 w_43_2) rfl rfl rfl hdX1_isFirst ⟨Nat.le_of_ble_eq_true rfl, Nat.le_of_ble_eq_true rfl⟩) rfl hl.1 rfl (Nat.le_of_ble_eq_true rfl) ⟨Nat.zero_le _, Nat.zero_le _⟩ dX1_firstCalled_9 (fun H locs hW => ?_)
  obtain ⟨hb3, h⟩ := ckb_of h
  obtain rfl := Option.some.inj h
  exact wd_zret hA hQ hC hr hk hW (ckb_nar hb3) dX1_firstCalled_12
def m_X1_fieldOf (S : St) (P : St) (p0 : Int32) (p1 : Int32) : Option (Int32) :=
  ((if p0 < 0 then (some 0) else (if 3 ≤ p0 then (some 0) else (if p1 < 0 then (some 0) else (if 3 ≤ p1 then (some 0) else (some 1)))) : Option (Int32))).bind (fun q2 => if q2 = 0 then (some 0) else (some (((p0 * 3) + p1) * 1681)))
set_option maxHeartbeats 4000000 in
set_option maxRecDepth 100000 in
theorem c_X1_fieldOf (l : Launch) (D : va_G) (cy : Nat → ClassId) (ad : Nat → Nat) (X : va_W) (S : St) (P : St) (p0 : Int32) (p1 : Int32) (r : (Int32)) (h : m_X1_fieldOf S P p0 p1 = some r) : CT l yX1_fieldOf (wu yX1_fieldOf cX1_fieldOf 3 (some .int)) 0 D cy [.int p0, .int p1] (wC ad cy S ++ (wP ad cy P ++ X)) (some (.int r)) (wC ad cy S ++ (wP ad cy P ++ X)) := by
  refine CT.mk (cc := cX1_fieldOf) (maxL := 3) (ret := (some .int)) (own := RX1) (by decide) rfl rfl (Nat.le_of_ble_eq_true rfl) ?_
  intro p e s m args below meth c ls A Q hA hQ hC hr hk hW hl
  have hx := hC.1
  have hb := hC.2.1
  have hown := hC.2.2.2.1
  have hts := hC.2.2.2.2
  have hl : lv_has ls 3 [(0, .int p0), (1, .int p1)] := hl
  unfold m_X1_fieldOf at h
  refine lv_iload_n hx hb dX1_fieldOf_0 rfl (lv_at hl 0 rfl) ?_
  obtain ⟨q2, hq3, h⟩ := bd_of h
  have hJ23 : ∀ (H : Heap) (locs : List Loc) (ls : Array Slot), Wd D cy A s (wC ad cy S ++ (wP ad cy P ++ X)) H locs → lv_has ls 3 [(0, .int p0), (1, .int p1)] → W p l e (RM 0) s m args below meth c H locs 0 0 Q (F0 m 23 ls [.int q2]) := by
    intro H locs ls hW hl
    refine lv_istore_n (lv' := [(2, .int q2), (0, .int p0), (1, .int p1)]) hx hb dX1_fieldOf_23 rfl hl (by decide) rfl (fun ls hl => ?_)
    refine lv_iload_n hx hb dX1_fieldOf_24 rfl (lv_at hl 0 rfl) ?_
    refine lv_if_eq (tgt := 40) hx hb dX1_fieldOf_25 (by decide) (fun c4 => ?_) (fun c4 => ?_)
    · replace h := ite_t h c4
      refine lv_iconst (v := 0) hx hb dX1_fieldOf_40 (by decide) ?_
      obtain rfl := Option.some.inj h
      exact wd_iret hA hQ hC hr hk hW dX1_fieldOf_41
    · replace h := ite_f h c4
      refine lv_iload_n hx hb dX1_fieldOf_28 rfl (lv_at hl 1 rfl) ?_
      refine lv_iconst (v := 3) hx hb dX1_fieldOf_29 (by decide) ?_
      refine lv_imul hx hb dX1_fieldOf_30 ?_
      refine lv_iload_n hx hb dX1_fieldOf_31 rfl (lv_at hl 2 rfl) ?_
      refine lv_iadd hx hb dX1_fieldOf_32 ?_
      refine lv_sipush (v := 1681) hx hb dX1_fieldOf_33 (by decide) ?_
      refine lv_imul hx hb dX1_fieldOf_36 ?_
      refine lv_goto (tgt := 41) hx hb dX1_fieldOf_37 (by decide) ?_
      obtain rfl := Option.some.inj h
      exact wd_iret hA hQ hC hr hk hW dX1_fieldOf_41
  replace h := hq3
  refine lv_if_lt (tgt := 22) hx hb dX1_fieldOf_1 (by decide) (fun c1 => ?_) (fun c1 => ?_)
  · replace h := ite_t h c1
    refine lv_iconst (v := 0) hx hb dX1_fieldOf_22 (by decide) ?_
    obtain rfl := Option.some.inj h
    exact hJ23 _ _ _ hW (lv_sub hl [0, 1] rfl)
  · replace h := ite_f h c1
    refine lv_iload_n hx hb dX1_fieldOf_4 rfl (lv_at hl 0 rfl) ?_
    refine lv_iconst (v := 3) hx hb dX1_fieldOf_5 (by decide) ?_
    refine lv_icmp_ge (tgt := 22) hx hb dX1_fieldOf_6 (by decide) (fun c5 => ?_) (fun c5 => ?_)
    · replace h := ite_t h c5
      refine lv_iconst (v := 0) hx hb dX1_fieldOf_22 (by decide) ?_
      obtain rfl := Option.some.inj h
      exact hJ23 _ _ _ hW (lv_sub hl [0, 1] rfl)
    · replace h := ite_f h c5
      refine lv_iload_n hx hb dX1_fieldOf_9 rfl (lv_at hl 1 rfl) ?_
      refine lv_if_lt (tgt := 22) hx hb dX1_fieldOf_10 (by decide) (fun c6 => ?_) (fun c6 => ?_)
      · replace h := ite_t h c6
        refine lv_iconst (v := 0) hx hb dX1_fieldOf_22 (by decide) ?_
        obtain rfl := Option.some.inj h
        exact hJ23 _ _ _ hW (lv_sub hl [0, 1] rfl)
      · replace h := ite_f h c6
        refine lv_iload_n hx hb dX1_fieldOf_13 rfl (lv_at hl 1 rfl) ?_
        refine lv_iconst (v := 3) hx hb dX1_fieldOf_14 (by decide) ?_
        refine lv_icmp_ge (tgt := 22) hx hb dX1_fieldOf_15 (by decide) (fun c7 => ?_) (fun c7 => ?_)
        · replace h := ite_t h c7
          refine lv_iconst (v := 0) hx hb dX1_fieldOf_22 (by decide) ?_
          obtain rfl := Option.some.inj h
          exact hJ23 _ _ _ hW (lv_sub hl [0, 1] rfl)
        · replace h := ite_f h c7
          refine lv_iconst (v := 1) hx hb dX1_fieldOf_18 (by decide) ?_
          refine lv_goto (tgt := 23) hx hb dX1_fieldOf_19 (by decide) ?_
          obtain rfl := Option.some.inj h
          exact hJ23 _ _ _ hW (lv_sub hl [0, 1] rfl)
def m_X1_valueAt (S : St) (P : St) (p0 : Int32) (p1 : Int32) : Option (Int32) :=
  (m_X1_fieldOf S P p0 p1).bind (fun r1 => ck ((r1 + ((P.1 72) * 41)) + (P.1 73)) 15129 (some (P.2.1 88 ((r1 + ((P.1 72) * 41)) + (P.1 73)).toNatClampNeg)))
set_option maxHeartbeats 4000000 in
set_option maxRecDepth 100000 in
theorem c_X1_valueAt (l : Launch) (D : va_G) (cy : Nat → ClassId) (ad : Nat → Nat) (X : va_W) (S : St) (P : St) (p0 : Int32) (p1 : Int32) (r : (Int32)) (h : m_X1_valueAt S P p0 p1 = some r) : CT l yX1_valueAt (wu yX1_valueAt cX1_valueAt 3 (some .int)) 1 D cy [.ref (ad 81), .int p0, .int p1] (wC ad cy S ++ (wP ad cy P ++ X)) (some (.int r)) (wC ad cy S ++ (wP ad cy P ++ X)) := by
  refine CT.mk (cc := cX1_valueAt) (maxL := 3) (ret := (some .int)) (own := RX1) (by decide) rfl rfl (Nat.le_of_ble_eq_true rfl) ?_
  intro p e s m args below meth c ls A Q hA hQ hC hr hk hW hl
  have hx := hC.1
  have hb := hC.2.1
  have hown := hC.2.2.2.1
  have hts := hC.2.2.2.2
  have hl : lv_has ls 3 [(0, .ref (ad 81)), (1, .int p0), (2, .int p1)] := hl
  have f56 := hts _ (wu_in w_43_20)
  have i1 := (fun w h => wu_in (inc_1 w h) : ∀ w ∈ u_ws RX1 TX1 16, w ∈ (wu yX1_valueAt cX1_valueAt 3 (some .int)))
  have f18 := hts _ (wu_in w_43_8)
  have f22 := hts _ (wu_in w_43_9)
  unfold m_X1_valueAt at h
  refine lv_aload_n hx hb dX1_valueAt_0 rfl (lv_at hl 0 rfl) ?_
  refine wd_get hC i1 hW 59 wP_c81 rfl 14 (Nat.le_of_ble_eq_true rfl) f56 rfl rfl dX1_valueAt_1 ?_
  refine lv_iload_n hx hb dX1_valueAt_4 rfl (lv_at hl 1 rfl) ?_
  refine lv_iload_n hx hb dX1_valueAt_5 rfl (lv_at hl 2 rfl) ?_
  obtain ⟨r1, hr2, h⟩ := bd_of h
  refine wd_callS1 (As := [.int p0, .int p1]) hC hW (c_X1_fieldOf l D cy ad X S P p0 p1 r1 hr2) (va_cwS 2 hts (gu_S w_45_8 w_45_6 w_45_7 w_43_2) rfl rfl rfl hdX1_fieldOf ⟨Nat.le_of_ble_eq_true rfl, Nat.le_of_ble_eq_true rfl⟩) rfl hl.1 rfl (Nat.le_of_ble_eq_true rfl) ⟨Nat.zero_le _, Nat.zero_le _⟩ dX1_valueAt_6 (fun H locs hW => ?_)
  refine lv_aload_n hx hb dX1_valueAt_9 rfl (lv_at hl 0 rfl) ?_
  refine wd_get hC i1 hW 59 wP_c81 rfl 2 (Nat.le_of_ble_eq_true rfl) f18 rfl rfl dX1_valueAt_10 ?_
  refine lv_bipush (v := 41) hx hb dX1_valueAt_13 (by decide) ?_
  refine lv_imul hx hb dX1_valueAt_15 ?_
  refine lv_iadd hx hb dX1_valueAt_16 ?_
  refine lv_aload_n hx hb dX1_valueAt_17 rfl (lv_at hl 0 rfl) ?_
  refine wd_get hC i1 hW 59 wP_c81 rfl 3 (Nat.le_of_ble_eq_true rfl) f22 rfl rfl dX1_valueAt_18 ?_
  refine lv_iadd hx hb dX1_valueAt_21 ?_
  obtain ⟨hi3, h⟩ := ck_of h
  refine wd_iald hC hW 66 wP_c88 hi3 dX1_valueAt_22 ?_
  obtain rfl := Option.some.inj h
  exact wd_iret hA hQ hC hr hk hW dX1_valueAt_23
def m_X1_fillSecond_L55 : Nat → St → St → Int32 → Int32 → Int32 → Int32 → Int32 → Int32 → Option (St)
  | 0, _, _, _, _, _, _, _, _ => none
  | n + 1, S, P, x1, x2, x3, x4, x5, x6 =>
    if x6 < 1 then (some P) else (ck x6 41 ((m_X1_outcome S P x2 ((P.1 75) + x6)).bind (fun r14 => (m_X1_outcome S P x2 (P.1 77)).bind (fun r16 => (m_X8_mix S (P.2.1 83 x6.toNatClampNeg) r14 r16).bind (fun r18 => ck x6 41 ((m_X1_outcome S P ((P.1 74) + x6) x3).bind (fun r21 => (m_X1_outcome S P (P.1 76) x3).bind (fun r23 => (m_X8_mix S (P.2.1 82 x6.toNatClampNeg) r21 r23).bind (fun r25 => ck ((x1 * 41) + x6) 1681 (nm (sA P 84 ((x1 * 41) + x6).toNatClampNeg r18) (fun P28 => ck ((x1 * 41) + x6) 1681 (nm (sA P28 85 ((x1 * 41) + x6).toNatClampNeg (mn x4 r18)) (fun P31 => ck ((x1 * 41) + x6) 1681 (nm (sA P31 86 ((x1 * 41) + x6).toNatClampNeg r25) (fun P34 => ck ((x1 * 41) + x6) 1681 (nm (sA P34 87 ((x1 * 41) + x6).toNatClampNeg (mx x5 r25)) (fun P37 => m_X1_fillSecond_L55 n S P37 x1 x2 x3 (mn x4 r18) (mx x5 r25) (x6 + (-1)))))))))))))))))))
theorem m_X1_fillSecond_L55_0 (S : St) (P : St) (x1 : Int32) (x2 : Int32) (x3 : Int32) (x4 : Int32) (x5 : Int32) (x6 : Int32) : m_X1_fillSecond_L55 0 S P x1 x2 x3 x4 x5 x6 = none := rfl
theorem m_X1_fillSecond_L55_s {n : Nat} {S : St} {P : St} {x1 : Int32} {x2 : Int32} {x3 : Int32} {x4 : Int32} {x5 : Int32} {x6 : Int32} : m_X1_fillSecond_L55 (n + 1) S P x1 x2 x3 x4 x5 x6 =
    (if x6 < 1 then (some P) else (ck x6 41 ((m_X1_outcome S P x2 ((P.1 75) + x6)).bind (fun r14 => (m_X1_outcome S P x2 (P.1 77)).bind (fun r16 => (m_X8_mix S (P.2.1 83 x6.toNatClampNeg) r14 r16).bind (fun r18 => ck x6 41 ((m_X1_outcome S P ((P.1 74) + x6) x3).bind (fun r21 => (m_X1_outcome S P (P.1 76) x3).bind (fun r23 => (m_X8_mix S (P.2.1 82 x6.toNatClampNeg) r21 r23).bind (fun r25 => ck ((x1 * 41) + x6) 1681 (nm (sA P 84 ((x1 * 41) + x6).toNatClampNeg r18) (fun P28 => ck ((x1 * 41) + x6) 1681 (nm (sA P28 85 ((x1 * 41) + x6).toNatClampNeg (mn x4 r18)) (fun P31 => ck ((x1 * 41) + x6) 1681 (nm (sA P31 86 ((x1 * 41) + x6).toNatClampNeg r25) (fun P34 => ck ((x1 * 41) + x6) 1681 (nm (sA P34 87 ((x1 * 41) + x6).toNatClampNeg (mx x5 r25)) (fun P37 => m_X1_fillSecond_L55 n S P37 x1 x2 x3 (mn x4 r18) (mx x5 r25) (x6 + (-1)))))))))))))))))))) := rfl
def m_X1_fillSecond_L2 : Nat → St → St → Int32 → Option (St)
  | 0, _, _, _ => none
  | n + 1, S, P, x1 =>
    if 40 < x1 then (some P) else (((if x1 = 0 then (some (P.1 76)) else (some ((P.1 74) + x1)) : Option (Int32))).bind (fun q5 => ((if x1 = 0 then (some (P.1 77)) else (some ((P.1 75) + x1)) : Option (Int32))).bind (fun q8 => (m_X1_fillSecond_L55 n S P x1 q5 q8 1000000 0 40).bind (fun q10 => m_X1_fillSecond_L2 n S q10 (x1 + 1)))))
theorem m_X1_fillSecond_L2_0 (S : St) (P : St) (x1 : Int32) : m_X1_fillSecond_L2 0 S P x1 = none := rfl
theorem m_X1_fillSecond_L2_s {n : Nat} {S : St} {P : St} {x1 : Int32} : m_X1_fillSecond_L2 (n + 1) S P x1 =
    (if 40 < x1 then (some P) else (((if x1 = 0 then (some (P.1 76)) else (some ((P.1 74) + x1)) : Option (Int32))).bind (fun q5 => ((if x1 = 0 then (some (P.1 77)) else (some ((P.1 75) + x1)) : Option (Int32))).bind (fun q8 => (m_X1_fillSecond_L55 n S P x1 q5 q8 1000000 0 40).bind (fun q10 => m_X1_fillSecond_L2 n S q10 (x1 + 1)))))) := rfl
def m_X1_fillSecond (n : Nat) (S : St) (P : St) : Option (St) :=
  (m_X1_fillSecond_L2 n S P 0).bind (fun q1 => some q1)
set_option maxHeartbeats 4000000 in
set_option maxRecDepth 100000 in
theorem c_X1_fillSecond (l : Launch) (D : va_G) (cy : Nat → ClassId) (ad : Nat → Nat) (X : va_W) (n : Nat) (S : St) (P : St) (r : (St)) (h : m_X1_fillSecond n S P = some r) : CT l yX1_fillSecond (wu yX1_fillSecond cX1_fillSecond 9 none) 1 D cy [.ref (ad 81)] (wC ad cy S ++ (wP ad cy P ++ X)) (none) (wC ad cy S ++ (wP ad cy r ++ X)) := by
  refine CT.mk (cc := cX1_fillSecond) (maxL := 9) (ret := none) (own := RX1) (by decide) rfl rfl (Nat.le_of_ble_eq_true rfl) ?_
  intro p e s m args below meth c ls A Q hA hQ hC hr hk hW hl
  have hx := hC.1
  have hb := hC.2.1
  have hown := hC.2.2.2.1
  have hts := hC.2.2.2.2
  have hl : lv_has ls 9 [(0, .ref (ad 81))] := hl
  have k95 := hts _ (wu_in w_44_14)
  have f41 := hts _ (wu_in w_43_15)
  have i1 := (fun w h => wu_in (inc_1 w h) : ∀ w ∈ u_ws RX1 TX1 16, w ∈ (wu yX1_fillSecond cX1_fillSecond 9 none))
  have f28 := hts _ (wu_in w_43_11)
  have f34 := hts _ (wu_in w_43_13)
  have csmix := hts _ (wu_in w_27_22)
  have ci8 := hts _ (wu_in w_1_2)
  have f37 := hts _ (wu_in w_43_14)
  have f25 := hts _ (wu_in w_43_10)
  have f31 := hts _ (wu_in w_43_12)
  have ml103 := hts _ (wu_in w_44_15)
  have msmin := hts _ (wu_in w_40_1)
  have mi := hts _ (wu_in w_15_14)
  have mcmin := hts _ (wu_in w_40_2)
  have ml108 := hts _ (wu_in w_44_16)
  have msmax := hts _ (wu_in w_15_13)
  have mcmax := hts _ (wu_in w_15_15)
  have f44 := hts _ (wu_in w_43_16)
  have f47 := hts _ (wu_in w_43_17)
  have f50 := hts _ (wu_in w_43_18)
  have f53 := hts _ (wu_in w_43_19)
  unfold m_X1_fillSecond at h
  refine lv_iconst (v := 0) hx hb dX1_fillSecond_0 (by decide) ?_
  refine lv_istore_n (lv' := [(1, .int 0), (0, .ref (ad 81))]) hx hb dX1_fillSecond_1 rfl hl (by decide) rfl (fun ls hl => ?_)
  have hL2 : ∀ (n : Nat) (P : St) (x1 : Int32)  (H : Heap) (locs : List Loc) (ls : Array Slot) (r : (St)), m_X1_fillSecond_L2 n S P x1 = some r → Wd D cy A s (wC ad cy S ++ (wP ad cy P ++ X)) H locs → lv_has ls 9 [(0, .ref (ad 81)), (1, .int x1)] → (∀ (H : Heap) (locs : List Loc) (ls : Array Slot), Wd D cy A s (wC ad cy S ++ (wP ad cy r ++ X)) H locs → lv_has ls 9 [(0, .ref (ad 81))] → W p l e (RM 1) s m args below meth c H locs 0 0 Q (F0 m 213 ls [])) → W p l e (RM 1) s m args below meth c H locs 0 0 Q (F0 m 2 ls []) := by
    intro n
    induction n with
    | zero =>
      intro P x1  H locs ls r h
      exact absurd (h.symm.trans (m_X1_fillSecond_L2_0 ..)) (by simp)
    | succ n ih =>
      intro P x1  H locs ls r h hW hl kk
      rw [m_X1_fillSecond_L2_s] at h
      refine lv_iload_n hx hb dX1_fillSecond_2 rfl (lv_at hl 1 rfl) ?_
      refine lv_bipush (v := 40) hx hb dX1_fillSecond_3 (by decide) ?_
      refine lv_icmp_gt (tgt := 213) hx hb dX1_fillSecond_5 (by decide) (fun c3 => ?_) (fun c3 => ?_)
      · replace h := ite_t h c3
        obtain rfl := Option.some.inj h
        exact kk _ _ _ hW (lv_sub hl [0] rfl)
      · replace h := ite_f h c3
        refine lv_iload_n hx hb dX1_fillSecond_8 rfl (lv_at hl 1 rfl) ?_
        obtain ⟨q5, hq6, h⟩ := bd_of h
        have hJ25 : ∀ (H : Heap) (locs : List Loc) (ls : Array Slot), Wd D cy A s (wC ad cy S ++ (wP ad cy P ++ X)) H locs → lv_has ls 9 [(0, .ref (ad 81)), (1, .int x1)] → W p l e (RM 1) s m args below meth c H locs 0 0 Q (F0 m 25 ls [.int q5]) := by
          intro H locs ls hW hl
          refine lv_istore_n (lv' := [(2, .int q5), (0, .ref (ad 81)), (1, .int x1)]) hx hb dX1_fillSecond_25 rfl hl (by decide) rfl (fun ls hl => ?_)
          refine lv_iload_n hx hb dX1_fillSecond_26 rfl (lv_at hl 2 rfl) ?_
          obtain ⟨q8, hq9, h⟩ := bd_of h
          have hJ43 : ∀ (H : Heap) (locs : List Loc) (ls : Array Slot), Wd D cy A s (wC ad cy S ++ (wP ad cy P ++ X)) H locs → lv_has ls 9 [(2, .int q5), (0, .ref (ad 81)), (1, .int x1)] → W p l e (RM 1) s m args below meth c H locs 0 0 Q (F0 m 43 ls [.int q8]) := by
            intro H locs ls hW hl
            refine lv_istore_n (lv' := [(3, .int q8), (2, .int q5), (0, .ref (ad 81)), (1, .int x1)]) hx hb dX1_fillSecond_43 rfl hl (by decide) rfl (fun ls hl => ?_)
            refine lv_ldc hx hb hown k95 dX1_fillSecond_44 ?_
            refine lv_istore (lv' := [(4, .int 1000000), (3, .int q8), (2, .int q5), (0, .ref (ad 81)), (1, .int x1)]) hx hb dX1_fillSecond_46 hl (by decide) rfl (fun ls hl => ?_)
            refine lv_iconst (v := 0) hx hb dX1_fillSecond_48 (by decide) ?_
            refine lv_istore (lv' := [(5, .int 0), (4, .int 1000000), (3, .int q8), (2, .int q5), (0, .ref (ad 81)), (1, .int x1)]) hx hb dX1_fillSecond_49 hl (by decide) rfl (fun ls hl => ?_)
            refine lv_bipush (v := 40) hx hb dX1_fillSecond_51 (by decide) ?_
            refine lv_istore (lv' := [(6, .int 40), (5, .int 0), (4, .int 1000000), (3, .int q8), (2, .int q5), (0, .ref (ad 81)), (1, .int x1)]) hx hb dX1_fillSecond_53 hl (by decide) rfl (fun ls hl => ?_)
            have hL55 : ∀ (n : Nat) (P : St) (x1 : Int32) (x2 : Int32) (x3 : Int32) (x4 : Int32) (x5 : Int32) (x6 : Int32)  (H : Heap) (locs : List Loc) (ls : Array Slot) (r : (St)), m_X1_fillSecond_L55 n S P x1 x2 x3 x4 x5 x6 = some r → Wd D cy A s (wC ad cy S ++ (wP ad cy P ++ X)) H locs → lv_has ls 9 [(0, .ref (ad 81)), (1, .int x1), (2, .int x2), (3, .int x3), (4, .int x4), (5, .int x5), (6, .int x6)] → (∀ (H : Heap) (locs : List Loc) (ls : Array Slot), Wd D cy A s (wC ad cy S ++ (wP ad cy r ++ X)) H locs → lv_has ls 9 [(0, .ref (ad 81)), (1, .int x1), (2, .int x2), (3, .int x3)] → W p l e (RM 1) s m args below meth c H locs 0 0 Q (F0 m 207 ls [])) → W p l e (RM 1) s m args below meth c H locs 0 0 Q (F0 m 55 ls []) := by
              intro n
              induction n with
              | zero =>
                intro P x1 x2 x3 x4 x5 x6  H locs ls r h
                exact absurd (h.symm.trans (m_X1_fillSecond_L55_0 ..)) (by simp)
              | succ n ih =>
                intro P x1 x2 x3 x4 x5 x6  H locs ls r h hW hl kk
                rw [m_X1_fillSecond_L55_s] at h
                refine lv_iload hx hb dX1_fillSecond_55 (lv_at hl 6 rfl) ?_
                refine lv_iconst (v := 1) hx hb dX1_fillSecond_57 (by decide) ?_
                refine lv_icmp_lt (tgt := 207) hx hb dX1_fillSecond_58 (by decide) (fun c12 => ?_) (fun c12 => ?_)
                · replace h := ite_t h c12
                  obtain rfl := Option.some.inj h
                  exact kk _ _ _ hW (lv_sub hl [0, 1, 2, 3] rfl)
                · replace h := ite_f h c12
                  refine lv_aload_n hx hb dX1_fillSecond_61 rfl (lv_at hl 0 rfl) ?_
                  refine wd_get hC i1 hW 59 wP_c81 rfl 9 (Nat.le_of_ble_eq_true rfl) f41 rfl rfl dX1_fillSecond_62 ?_
                  refine lv_iload hx hb dX1_fillSecond_65 (lv_at hl 6 rfl) ?_
                  obtain ⟨hi13, h⟩ := ck_of h
                  refine wd_iald hC hW 61 wP_c83 hi13 dX1_fillSecond_67 ?_
                  refine lv_aload_n hx hb dX1_fillSecond_68 rfl (lv_at hl 0 rfl) ?_
                  refine lv_iload_n hx hb dX1_fillSecond_69 rfl (lv_at hl 2 rfl) ?_
                  refine lv_aload_n hx hb dX1_fillSecond_70 rfl (lv_at hl 0 rfl) ?_
                  refine wd_get hC i1 hW 59 wP_c81 rfl 5 (Nat.le_of_ble_eq_true rfl) f28 rfl rfl dX1_fillSecond_71 ?_
                  refine lv_iload hx hb dX1_fillSecond_74 (lv_at hl 6 rfl) ?_
                  refine lv_iadd hx hb dX1_fillSecond_76 ?_
                  obtain ⟨r14, hr15, h⟩ := bd_of h
                  refine wd_callV1 (As := [.int x2, .int ((P.1 75) + x6)]) hC hW 59 wP_c81 rfl (c_X1_outcome l D cy ad X S P x2 ((P.1 75) + x6) r14 hr15) (cwV 2 hts (gu_V w_44_20 w_44_17 w_44_18 w_44_19 w_43_2) rfl rfl rfl hdX1_outcome ⟨Nat.le_of_ble_eq_true rfl, Nat.le_of_ble_eq_true rfl⟩) rfl hl.1 rfl (Nat.le_of_ble_eq_true rfl) ⟨Nat.zero_le _, Nat.zero_le _⟩ dX1_fillSecond_77 (fun H locs hW => ?_)
                  refine lv_aload_n hx hb dX1_fillSecond_80 rfl (lv_at hl 0 rfl) ?_
                  refine lv_iload_n hx hb dX1_fillSecond_81 rfl (lv_at hl 2 rfl) ?_
                  refine lv_aload_n hx hb dX1_fillSecond_82 rfl (lv_at hl 0 rfl) ?_
                  refine wd_get hC i1 hW 59 wP_c81 rfl 7 (Nat.le_of_ble_eq_true rfl) f34 rfl rfl dX1_fillSecond_83 ?_
                  obtain ⟨r16, hr17, h⟩ := bd_of h
                  refine wd_callV1 (As := [.int x2, .int (P.1 77)]) hC hW 59 wP_c81 rfl (c_X1_outcome l D cy ad X S P x2 (P.1 77) r16 hr17) (cwV 2 hts (gu_V w_44_20 w_44_17 w_44_18 w_44_19 w_43_2) rfl rfl rfl hdX1_outcome ⟨Nat.le_of_ble_eq_true rfl, Nat.le_of_ble_eq_true rfl⟩) rfl hl.1 rfl (Nat.le_of_ble_eq_true rfl) ⟨Nat.zero_le _, Nat.zero_le _⟩ dX1_fillSecond_86 (fun H locs hW => ?_)
                  obtain ⟨r18, hr19, h⟩ := bd_of h
                  refine wd_callSN1 (As := [.int (P.2.1 83 x6.toNatClampNeg), .int r14, .int r16]) hC hW (c_X8_mix l D cy ad (wP ad cy P ++ X) S (P.2.1 83 x6.toNatClampNeg) r14 r16 r18 hr19) ⟨va_cnB 3 hts (gu_N w_27_23) rfl rfl rfl (hW.2.2.2.2.2.at 9 rfl) ci8 hdX8_mix ⟨Nat.le_of_ble_eq_true rfl, Nat.le_of_ble_eq_true rfl⟩, csmix, trivial⟩ rfl hl.1 rfl (Nat.le_of_ble_eq_true rfl) ⟨Nat.zero_le _, Nat.zero_le _⟩ dX1_fillSecond_89 (fun H locs hW => ?_)
                  refine lv_istore (lv' := [(7, .int r18), (0, .ref (ad 81)), (1, .int x1), (2, .int x2), (3, .int x3), (4, .int x4), (5, .int x5), (6, .int x6)]) hx hb dX1_fillSecond_92 hl (by decide) rfl (fun ls hl => ?_)
                  refine lv_aload_n hx hb dX1_fillSecond_94 rfl (lv_at hl 1 rfl) ?_
                  refine wd_get hC i1 hW 59 wP_c81 rfl 8 (Nat.le_of_ble_eq_true rfl) f37 rfl rfl dX1_fillSecond_95 ?_
                  refine lv_iload hx hb dX1_fillSecond_98 (lv_at hl 7 rfl) ?_
                  obtain ⟨hi20, h⟩ := ck_of h
                  refine wd_iald hC hW 60 wP_c82 hi20 dX1_fillSecond_100 ?_
                  refine lv_aload_n hx hb dX1_fillSecond_101 rfl (lv_at hl 1 rfl) ?_
                  refine lv_aload_n hx hb dX1_fillSecond_102 rfl (lv_at hl 1 rfl) ?_
                  refine wd_get hC i1 hW 59 wP_c81 rfl 4 (Nat.le_of_ble_eq_true rfl) f25 rfl rfl dX1_fillSecond_103 ?_
                  refine lv_iload hx hb dX1_fillSecond_106 (lv_at hl 7 rfl) ?_
                  refine lv_iadd hx hb dX1_fillSecond_108 ?_
                  refine lv_iload_n hx hb dX1_fillSecond_109 rfl (lv_at hl 4 rfl) ?_
                  obtain ⟨r21, hr22, h⟩ := bd_of h
                  refine wd_callV1 (As := [.int ((P.1 74) + x6), .int x3]) hC hW 59 wP_c81 rfl (c_X1_outcome l D cy ad X S P ((P.1 74) + x6) x3 r21 hr22) (cwV 2 hts (gu_V w_44_20 w_44_17 w_44_18 w_44_19 w_43_2) rfl rfl rfl hdX1_outcome ⟨Nat.le_of_ble_eq_true rfl, Nat.le_of_ble_eq_true rfl⟩) rfl hl.1 rfl (Nat.le_of_ble_eq_true rfl) ⟨Nat.zero_le _, Nat.zero_le _⟩ dX1_fillSecond_110 (fun H locs hW => ?_)
                  refine lv_aload_n hx hb dX1_fillSecond_113 rfl (lv_at hl 1 rfl) ?_
                  refine lv_aload_n hx hb dX1_fillSecond_114 rfl (lv_at hl 1 rfl) ?_
                  refine wd_get hC i1 hW 59 wP_c81 rfl 6 (Nat.le_of_ble_eq_true rfl) f31 rfl rfl dX1_fillSecond_115 ?_
                  refine lv_iload_n hx hb dX1_fillSecond_118 rfl (lv_at hl 4 rfl) ?_
                  obtain ⟨r23, hr24, h⟩ := bd_of h
                  refine wd_callV1 (As := [.int (P.1 76), .int x3]) hC hW 59 wP_c81 rfl (c_X1_outcome l D cy ad X S P (P.1 76) x3 r23 hr24) (cwV 2 hts (gu_V w_44_20 w_44_17 w_44_18 w_44_19 w_43_2) rfl rfl rfl hdX1_outcome ⟨Nat.le_of_ble_eq_true rfl, Nat.le_of_ble_eq_true rfl⟩) rfl hl.1 rfl (Nat.le_of_ble_eq_true rfl) ⟨Nat.zero_le _, Nat.zero_le _⟩ dX1_fillSecond_119 (fun H locs hW => ?_)
                  obtain ⟨r25, hr26, h⟩ := bd_of h
                  refine wd_callSN1 (As := [.int (P.2.1 82 x6.toNatClampNeg), .int r21, .int r23]) hC hW (c_X8_mix l D cy ad (wP ad cy P ++ X) S (P.2.1 82 x6.toNatClampNeg) r21 r23 r25 hr26) ⟨va_cnB 3 hts (gu_N w_27_23) rfl rfl rfl (hW.2.2.2.2.2.at 9 rfl) ci8 hdX8_mix ⟨Nat.le_of_ble_eq_true rfl, Nat.le_of_ble_eq_true rfl⟩, csmix, trivial⟩ rfl hl.1 rfl (Nat.le_of_ble_eq_true rfl) ⟨Nat.zero_le _, Nat.zero_le _⟩ dX1_fillSecond_122 (fun H locs hW => ?_)
                  refine lv_istore (lv' := [(8, .int r25), (7, .int r18), (0, .ref (ad 81)), (1, .int x1), (2, .int x2), (3, .int x3), (4, .int x4), (5, .int x5), (6, .int x6)]) hx hb dX1_fillSecond_125 hl (by decide) rfl (fun ls hl => ?_)
                  refine lv_iload hx hb dX1_fillSecond_127 (lv_at hl 6 rfl) ?_
                  refine lv_iload hx hb dX1_fillSecond_129 (lv_at hl 1 rfl) ?_
                  refine wd_min hC hl.1 ml103 msmin mi mcmin (Nat.le_of_ble_eq_true rfl) (Nat.le_of_ble_eq_true rfl) (Nat.zero_le _) (Nat.zero_le _) dX1_fillSecond_131 ?_
                  refine lv_istore (lv' := [(4, .int (mn x4 r18)), (8, .int r25), (7, .int r18), (0, .ref (ad 81)), (1, .int x1), (2, .int x2), (3, .int x3), (5, .int x5), (6, .int x6)]) hx hb dX1_fillSecond_134 hl (by decide) rfl (fun ls hl => ?_)
                  refine lv_iload hx hb dX1_fillSecond_136 (lv_at hl 7 rfl) ?_
                  refine lv_iload hx hb dX1_fillSecond_138 (lv_at hl 1 rfl) ?_
                  refine wd_max hC hl.1 ml108 msmax mi mcmax (Nat.le_of_ble_eq_true rfl) (Nat.le_of_ble_eq_true rfl) (Nat.zero_le _) (Nat.zero_le _) dX1_fillSecond_140 ?_
                  refine lv_istore (lv' := [(5, .int (mx x5 r25)), (4, .int (mn x4 r18)), (8, .int r25), (7, .int r18), (0, .ref (ad 81)), (1, .int x1), (2, .int x2), (3, .int x3), (6, .int x6)]) hx hb dX1_fillSecond_143 hl (by decide) rfl (fun ls hl => ?_)
                  refine lv_aload_n hx hb dX1_fillSecond_145 rfl (lv_at hl 4 rfl) ?_
                  refine wd_get hC i1 hW 59 wP_c81 rfl 10 (Nat.le_of_ble_eq_true rfl) f44 rfl rfl dX1_fillSecond_146 ?_
                  refine lv_iload_n hx hb dX1_fillSecond_149 rfl (lv_at hl 5 rfl) ?_
                  refine lv_bipush (v := 41) hx hb dX1_fillSecond_150 (by decide) ?_
                  refine lv_imul hx hb dX1_fillSecond_152 ?_
                  refine lv_iload hx hb dX1_fillSecond_153 (lv_at hl 8 rfl) ?_
                  refine lv_iadd hx hb dX1_fillSecond_155 ?_
                  refine lv_iload hx hb dX1_fillSecond_156 (lv_at hl 3 rfl) ?_
                  obtain ⟨hi27, h⟩ := ck_of h
                  refine wd_iast hC hW 62 wP_c84 hi27 wP_t84 dX1_fillSecond_158 (fun H locs hW => ?_)
                  obtain ⟨P28, e29, h⟩ := nm_of h
                  replace hW := wq_P e29 hW
                  refine lv_aload_n hx hb dX1_fillSecond_159 rfl (lv_at hl 4 rfl) ?_
                  refine wd_get hC i1 hW 59 wP_c81 rfl 11 (Nat.le_of_ble_eq_true rfl) f47 rfl rfl dX1_fillSecond_160 ?_
                  refine lv_iload_n hx hb dX1_fillSecond_163 rfl (lv_at hl 5 rfl) ?_
                  refine lv_bipush (v := 41) hx hb dX1_fillSecond_164 (by decide) ?_
                  refine lv_imul hx hb dX1_fillSecond_166 ?_
                  refine lv_iload hx hb dX1_fillSecond_167 (lv_at hl 8 rfl) ?_
                  refine lv_iadd hx hb dX1_fillSecond_169 ?_
                  refine lv_iload hx hb dX1_fillSecond_170 (lv_at hl 1 rfl) ?_
                  obtain ⟨hi30, h⟩ := ck_of h
                  refine wd_iast hC hW 63 wP_c85 hi30 wP_t85 dX1_fillSecond_172 (fun H locs hW => ?_)
                  obtain ⟨P31, e32, h⟩ := nm_of h
                  replace hW := wq_P e32 hW
                  refine lv_aload_n hx hb dX1_fillSecond_173 rfl (lv_at hl 4 rfl) ?_
                  refine wd_get hC i1 hW 59 wP_c81 rfl 12 (Nat.le_of_ble_eq_true rfl) f50 rfl rfl dX1_fillSecond_174 ?_
                  refine lv_iload_n hx hb dX1_fillSecond_177 rfl (lv_at hl 5 rfl) ?_
                  refine lv_bipush (v := 41) hx hb dX1_fillSecond_178 (by decide) ?_
                  refine lv_imul hx hb dX1_fillSecond_180 ?_
                  refine lv_iload hx hb dX1_fillSecond_181 (lv_at hl 8 rfl) ?_
                  refine lv_iadd hx hb dX1_fillSecond_183 ?_
                  refine lv_iload hx hb dX1_fillSecond_184 (lv_at hl 2 rfl) ?_
                  obtain ⟨hi33, h⟩ := ck_of h
                  refine wd_iast hC hW 64 wP_c86 hi33 wP_t86 dX1_fillSecond_186 (fun H locs hW => ?_)
                  obtain ⟨P34, e35, h⟩ := nm_of h
                  replace hW := wq_P e35 hW
                  refine lv_aload_n hx hb dX1_fillSecond_187 rfl (lv_at hl 4 rfl) ?_
                  refine wd_get hC i1 hW 59 wP_c81 rfl 13 (Nat.le_of_ble_eq_true rfl) f53 rfl rfl dX1_fillSecond_188 ?_
                  refine lv_iload_n hx hb dX1_fillSecond_191 rfl (lv_at hl 5 rfl) ?_
                  refine lv_bipush (v := 41) hx hb dX1_fillSecond_192 (by decide) ?_
                  refine lv_imul hx hb dX1_fillSecond_194 ?_
                  refine lv_iload hx hb dX1_fillSecond_195 (lv_at hl 8 rfl) ?_
                  refine lv_iadd hx hb dX1_fillSecond_197 ?_
                  refine lv_iload hx hb dX1_fillSecond_198 (lv_at hl 0 rfl) ?_
                  obtain ⟨hi36, h⟩ := ck_of h
                  refine wd_iast hC hW 65 wP_c87 hi36 wP_t87 dX1_fillSecond_200 (fun H locs hW => ?_)
                  obtain ⟨P37, e38, h⟩ := nm_of h
                  replace hW := wq_P e38 hW
                  refine lv_iinc (v := x6 + (-1)) (lv' := [(6, .int (x6 + (-1))), (5, .int (mx x5 r25)), (4, .int (mn x4 r18)), (8, .int r25), (7, .int r18), (0, .ref (ad 81)), (1, .int x1), (2, .int x2), (3, .int x3)]) hx hb dX1_fillSecond_201 hl (k := 8) rfl rfl (by decide) rfl (fun ls hl => ?_)
                  refine lv_goto (tgt := 55) hx hb dX1_fillSecond_204 (by decide) ?_
                  exact ih P37 x1 x2 x3 (mn x4 r18) (mx x5 r25) (x6 + (-1)) _ _ _ r h hW (lv_sub hl [5, 6, 7, 8, 2, 1, 0] rfl) kk
            obtain ⟨q10, hq11, h⟩ := bd_of h
            refine hL55 n P x1 q5 q8 1000000 0 40  _ _ _ q10 hq11 hW (lv_sub hl [5, 6, 4, 3, 2, 1, 0] rfl) (fun H locs ls hW hl => ?_)
            refine lv_iinc (v := x1 + 1) (lv' := [(1, .int (x1 + 1)), (0, .ref (ad 81)), (2, .int q5), (3, .int q8)]) hx hb dX1_fillSecond_207 hl (k := 1) rfl rfl (by decide) rfl (fun ls hl => ?_)
            refine lv_goto (tgt := 2) hx hb dX1_fillSecond_210 (by decide) ?_
            exact ih q10 (x1 + 1) _ _ _ r h hW (lv_sub hl [1, 0] rfl) kk
          replace h := hq9
          refine lv_if_ne (tgt := 37) hx hb dX1_fillSecond_27 (by decide) (fun c7 => ?_) (fun c7 => ?_)
          · replace h := ite_f h c7
            refine lv_aload_n hx hb dX1_fillSecond_37 rfl (lv_at hl 1 rfl) ?_
            refine wd_get hC i1 hW 59 wP_c81 rfl 5 (Nat.le_of_ble_eq_true rfl) f28 rfl rfl dX1_fillSecond_38 ?_
            refine lv_iload_n hx hb dX1_fillSecond_41 rfl (lv_at hl 2 rfl) ?_
            refine lv_iadd hx hb dX1_fillSecond_42 ?_
            obtain rfl := Option.some.inj h
            exact hJ43 _ _ _ hW (lv_sub hl [0, 1, 2] rfl)
          · replace h := ite_t h c7
            refine lv_aload_n hx hb dX1_fillSecond_30 rfl (lv_at hl 1 rfl) ?_
            refine wd_get hC i1 hW 59 wP_c81 rfl 7 (Nat.le_of_ble_eq_true rfl) f34 rfl rfl dX1_fillSecond_31 ?_
            refine lv_goto (tgt := 43) hx hb dX1_fillSecond_34 (by decide) ?_
            obtain rfl := Option.some.inj h
            exact hJ43 _ _ _ hW (lv_sub hl [0, 1, 2] rfl)
        replace h := hq6
        refine lv_if_ne (tgt := 19) hx hb dX1_fillSecond_9 (by decide) (fun c4 => ?_) (fun c4 => ?_)
        · replace h := ite_f h c4
          refine lv_aload_n hx hb dX1_fillSecond_19 rfl (lv_at hl 0 rfl) ?_
          refine wd_get hC i1 hW 59 wP_c81 rfl 4 (Nat.le_of_ble_eq_true rfl) f25 rfl rfl dX1_fillSecond_20 ?_
          refine lv_iload_n hx hb dX1_fillSecond_23 rfl (lv_at hl 1 rfl) ?_
          refine lv_iadd hx hb dX1_fillSecond_24 ?_
          obtain rfl := Option.some.inj h
          exact hJ25 _ _ _ hW (lv_sub hl [0, 1] rfl)
        · replace h := ite_t h c4
          refine lv_aload_n hx hb dX1_fillSecond_12 rfl (lv_at hl 0 rfl) ?_
          refine wd_get hC i1 hW 59 wP_c81 rfl 6 (Nat.le_of_ble_eq_true rfl) f31 rfl rfl dX1_fillSecond_13 ?_
          refine lv_goto (tgt := 25) hx hb dX1_fillSecond_16 (by decide) ?_
          obtain rfl := Option.some.inj h
          exact hJ25 _ _ _ hW (lv_sub hl [0, 1] rfl)
  obtain ⟨q1, hq2, h⟩ := bd_of h
  refine hL2 n P 0  _ _ _ q1 hq2 hW (lv_sub hl [1, 0] rfl) (fun H locs ls hW hl => ?_)
  obtain rfl := Option.some.inj h
  exact wd_vret hA hQ hC hr hk hW dX1_fillSecond_213
def m_X1_valueOfTry (S : St) (P : St) (p0 : Int32) (p1 : Int32) (p2 : Int32) (p3 : Int32) : Option (Int32) :=
  (m_X1_isFirst S P p0 p1).bind (fun r1 => if r1 = 0 then (if p2 ≤ 0 then (ck p1 41 (ck ((p1 * 41) + p0) 1681 (ck p0 1681 ((m_X8_mix S (P.2.1 83 p1.toNatClampNeg) (P.2.1 86 ((p1 * 41) + p0).toNatClampNeg) (P.2.1 86 p0.toNatClampNeg)).bind (fun r8 => some r8))))) else (ck p1 41 (ck ((p1 * 41) + p0) 1681 (ck p0 1681 ((m_X8_mix S (P.2.1 83 p1.toNatClampNeg) (P.2.1 87 ((p1 * 41) + p0).toNatClampNeg) (P.2.1 87 p0.toNatClampNeg)).bind (fun r13 => some r13)))))) else (if p3 ≤ 0 then (ck p0 41 (ck ((p0 * 41) + p1) 1681 (ck p1 1681 ((m_X8_mix S (P.2.1 82 p0.toNatClampNeg) (P.2.1 84 ((p0 * 41) + p1).toNatClampNeg) (P.2.1 84 p1.toNatClampNeg)).bind (fun r19 => some r19))))) else (ck p0 41 (ck ((p0 * 41) + p1) 1681 (ck p1 1681 ((m_X8_mix S (P.2.1 82 p0.toNatClampNeg) (P.2.1 85 ((p0 * 41) + p1).toNatClampNeg) (P.2.1 85 p1.toNatClampNeg)).bind (fun r24 => some r24)))))))
set_option maxHeartbeats 4000000 in
set_option maxRecDepth 100000 in
theorem c_X1_valueOfTry (l : Launch) (D : va_G) (cy : Nat → ClassId) (ad : Nat → Nat) (X : va_W) (S : St) (P : St) (p0 : Int32) (p1 : Int32) (p2 : Int32) (p3 : Int32) (r : (Int32)) (h : m_X1_valueOfTry S P p0 p1 p2 p3 = some r) : CT l yX1_valueOfTry (wu yX1_valueOfTry cX1_valueOfTry 6 (some .int)) 1 D cy [.ref (ad 81), .int p0, .int p1, .int p2, .int p3] (wC ad cy S ++ (wP ad cy P ++ X)) (some (.int r)) (wC ad cy S ++ (wP ad cy P ++ X)) := by
  refine CT.mk (cc := cX1_valueOfTry) (maxL := 6) (ret := (some .int)) (own := RX1) (by decide) rfl rfl (Nat.le_of_ble_eq_true rfl) ?_
  intro p e s m args below meth c ls A Q hA hQ hC hr hk hW hl
  have hx := hC.1
  have hb := hC.2.1
  have hown := hC.2.2.2.1
  have hts := hC.2.2.2.2
  have hl : lv_has ls 6 [(0, .ref (ad 81)), (1, .int p0), (2, .int p1), (3, .int p2), (4, .int p3)] := hl
  have f50 := hts _ (wu_in w_43_18)
  have i1 := (fun w h => wu_in (inc_1 w h) : ∀ w ∈ u_ws RX1 TX1 16, w ∈ (wu yX1_valueOfTry cX1_valueOfTry 6 (some .int)))
  have f41 := hts _ (wu_in w_43_15)
  have csmix := hts _ (wu_in w_27_22)
  have ci8 := hts _ (wu_in w_1_2)
  have f53 := hts _ (wu_in w_43_19)
  have f44 := hts _ (wu_in w_43_16)
  have f37 := hts _ (wu_in w_43_14)
  have f47 := hts _ (wu_in w_43_17)
  unfold m_X1_valueOfTry at h
  refine lv_aload_n hx hb dX1_valueOfTry_0 rfl (lv_at hl 0 rfl) ?_
  refine lv_iload_n hx hb dX1_valueOfTry_1 rfl (lv_at hl 1 rfl) ?_
  refine lv_iload_n hx hb dX1_valueOfTry_2 rfl (lv_at hl 2 rfl) ?_
  obtain ⟨r1, hr2, h⟩ := bd_of h
  refine wd_callV1 (As := [.int p0, .int p1]) hC hW 59 wP_c81 rfl (c_X1_isFirst l D cy ad X S P p0 p1 r1 hr2) (cwV 2 hts (gu_V w_45_17 w_45_14 w_45_15 w_45_16 w_43_2) rfl rfl rfl hdX1_isFirst ⟨Nat.le_of_ble_eq_true rfl, Nat.le_of_ble_eq_true rfl⟩) rfl hl.1 rfl (Nat.le_of_ble_eq_true rfl) ⟨Nat.zero_le _, Nat.zero_le _⟩ dX1_valueOfTry_3 (fun H locs hW => ?_)
  refine lv_if_eq (tgt := 50) hx hb dX1_valueOfTry_6 (by decide) (fun c3 => ?_) (fun c3 => ?_)
  · replace h := ite_t h c3
    refine lv_iload_n hx hb dX1_valueOfTry_50 rfl (lv_at hl 3 rfl) ?_
    refine lv_if_le (tgt := 61) hx hb dX1_valueOfTry_51 (by decide) (fun c4 => ?_) (fun c4 => ?_)
    · replace h := ite_t h c4
      refine lv_aload_n hx hb dX1_valueOfTry_61 rfl (lv_at hl 0 rfl) ?_
      refine wd_get hC i1 hW 59 wP_c81 rfl 12 (Nat.le_of_ble_eq_true rfl) f50 rfl rfl dX1_valueOfTry_62 ?_
      refine lv_astore (lv' := [(5, .ref (ad 86)), (0, .ref (ad 81)), (1, .int p0), (2, .int p1), (3, .int p2), (4, .int p3)]) hx hb dX1_valueOfTry_65 hl (by decide) rfl (fun ls hl => ?_)
      refine lv_aload_n hx hb dX1_valueOfTry_67 rfl (lv_at hl 1 rfl) ?_
      refine wd_get hC i1 hW 59 wP_c81 rfl 9 (Nat.le_of_ble_eq_true rfl) f41 rfl rfl dX1_valueOfTry_68 ?_
      refine lv_iload_n hx hb dX1_valueOfTry_71 rfl (lv_at hl 3 rfl) ?_
      obtain ⟨hi5, h⟩ := ck_of h
      refine wd_iald hC hW 61 wP_c83 hi5 dX1_valueOfTry_72 ?_
      refine lv_aload hx hb dX1_valueOfTry_73 (lv_at hl 0 rfl) ?_
      refine lv_iload_n hx hb dX1_valueOfTry_75 rfl (lv_at hl 3 rfl) ?_
      refine lv_bipush (v := 41) hx hb dX1_valueOfTry_76 (by decide) ?_
      refine lv_imul hx hb dX1_valueOfTry_78 ?_
      refine lv_iload_n hx hb dX1_valueOfTry_79 rfl (lv_at hl 2 rfl) ?_
      refine lv_iadd hx hb dX1_valueOfTry_80 ?_
      obtain ⟨hi6, h⟩ := ck_of h
      refine wd_iald hC hW 64 wP_c86 hi6 dX1_valueOfTry_81 ?_
      refine lv_aload hx hb dX1_valueOfTry_82 (lv_at hl 0 rfl) ?_
      refine lv_iload_n hx hb dX1_valueOfTry_84 rfl (lv_at hl 2 rfl) ?_
      obtain ⟨hi7, h⟩ := ck_of h
      refine wd_iald hC hW 64 wP_c86 hi7 dX1_valueOfTry_85 ?_
      obtain ⟨r8, hr9, h⟩ := bd_of h
      refine wd_callSN1 (As := [.int (P.2.1 83 p1.toNatClampNeg), .int (P.2.1 86 ((p1 * 41) + p0).toNatClampNeg), .int (P.2.1 86 p0.toNatClampNeg)]) hC hW (c_X8_mix l D cy ad (wP ad cy P ++ X) S (P.2.1 83 p1.toNatClampNeg) (P.2.1 86 ((p1 * 41) + p0).toNatClampNeg) (P.2.1 86 p0.toNatClampNeg) r8 hr9) ⟨va_cnB 3 hts (gu_N w_27_23) rfl rfl rfl (hW.2.2.2.2.2.at 9 rfl) ci8 hdX8_mix ⟨Nat.le_of_ble_eq_true rfl, Nat.le_of_ble_eq_true rfl⟩, csmix, trivial⟩ rfl hl.1 rfl (Nat.le_of_ble_eq_true rfl) ⟨Nat.zero_le _, Nat.zero_le _⟩ dX1_valueOfTry_86 (fun H locs hW => ?_)
      obtain rfl := Option.some.inj h
      exact wd_iret hA hQ hC hr hk hW dX1_valueOfTry_89
    · replace h := ite_f h c4
      refine lv_aload_n hx hb dX1_valueOfTry_54 rfl (lv_at hl 0 rfl) ?_
      refine wd_get hC i1 hW 59 wP_c81 rfl 13 (Nat.le_of_ble_eq_true rfl) f53 rfl rfl dX1_valueOfTry_55 ?_
      refine lv_goto (tgt := 65) hx hb dX1_valueOfTry_58 (by decide) ?_
      refine lv_astore (lv' := [(5, .ref (ad 87)), (0, .ref (ad 81)), (1, .int p0), (2, .int p1), (3, .int p2), (4, .int p3)]) hx hb dX1_valueOfTry_65 hl (by decide) rfl (fun ls hl => ?_)
      refine lv_aload_n hx hb dX1_valueOfTry_67 rfl (lv_at hl 1 rfl) ?_
      refine wd_get hC i1 hW 59 wP_c81 rfl 9 (Nat.le_of_ble_eq_true rfl) f41 rfl rfl dX1_valueOfTry_68 ?_
      refine lv_iload_n hx hb dX1_valueOfTry_71 rfl (lv_at hl 3 rfl) ?_
      obtain ⟨hi10, h⟩ := ck_of h
      refine wd_iald hC hW 61 wP_c83 hi10 dX1_valueOfTry_72 ?_
      refine lv_aload hx hb dX1_valueOfTry_73 (lv_at hl 0 rfl) ?_
      refine lv_iload_n hx hb dX1_valueOfTry_75 rfl (lv_at hl 3 rfl) ?_
      refine lv_bipush (v := 41) hx hb dX1_valueOfTry_76 (by decide) ?_
      refine lv_imul hx hb dX1_valueOfTry_78 ?_
      refine lv_iload_n hx hb dX1_valueOfTry_79 rfl (lv_at hl 2 rfl) ?_
      refine lv_iadd hx hb dX1_valueOfTry_80 ?_
      obtain ⟨hi11, h⟩ := ck_of h
      refine wd_iald hC hW 65 wP_c87 hi11 dX1_valueOfTry_81 ?_
      refine lv_aload hx hb dX1_valueOfTry_82 (lv_at hl 0 rfl) ?_
      refine lv_iload_n hx hb dX1_valueOfTry_84 rfl (lv_at hl 2 rfl) ?_
      obtain ⟨hi12, h⟩ := ck_of h
      refine wd_iald hC hW 65 wP_c87 hi12 dX1_valueOfTry_85 ?_
      obtain ⟨r13, hr14, h⟩ := bd_of h
      refine wd_callSN1 (As := [.int (P.2.1 83 p1.toNatClampNeg), .int (P.2.1 87 ((p1 * 41) + p0).toNatClampNeg), .int (P.2.1 87 p0.toNatClampNeg)]) hC hW (c_X8_mix l D cy ad (wP ad cy P ++ X) S (P.2.1 83 p1.toNatClampNeg) (P.2.1 87 ((p1 * 41) + p0).toNatClampNeg) (P.2.1 87 p0.toNatClampNeg) r13 hr14) ⟨va_cnB 3 hts (gu_N w_27_23) rfl rfl rfl (hW.2.2.2.2.2.at 9 rfl) ci8 hdX8_mix ⟨Nat.le_of_ble_eq_true rfl, Nat.le_of_ble_eq_true rfl⟩, csmix, trivial⟩ rfl hl.1 rfl (Nat.le_of_ble_eq_true rfl) ⟨Nat.zero_le _, Nat.zero_le _⟩ dX1_valueOfTry_86 (fun H locs hW => ?_)
      obtain rfl := Option.some.inj h
      exact wd_iret hA hQ hC hr hk hW dX1_valueOfTry_89
  · replace h := ite_f h c3
    refine lv_iload hx hb dX1_valueOfTry_9 (lv_at hl 4 rfl) ?_
    refine lv_if_le (tgt := 21) hx hb dX1_valueOfTry_11 (by decide) (fun c15 => ?_) (fun c15 => ?_)
    · replace h := ite_t h c15
      refine lv_aload_n hx hb dX1_valueOfTry_21 rfl (lv_at hl 0 rfl) ?_
      refine wd_get hC i1 hW 59 wP_c81 rfl 10 (Nat.le_of_ble_eq_true rfl) f44 rfl rfl dX1_valueOfTry_22 ?_
      refine lv_astore (lv' := [(5, .ref (ad 84)), (0, .ref (ad 81)), (1, .int p0), (2, .int p1), (3, .int p2), (4, .int p3)]) hx hb dX1_valueOfTry_25 hl (by decide) rfl (fun ls hl => ?_)
      refine lv_aload_n hx hb dX1_valueOfTry_27 rfl (lv_at hl 1 rfl) ?_
      refine wd_get hC i1 hW 59 wP_c81 rfl 8 (Nat.le_of_ble_eq_true rfl) f37 rfl rfl dX1_valueOfTry_28 ?_
      refine lv_iload_n hx hb dX1_valueOfTry_31 rfl (lv_at hl 2 rfl) ?_
      obtain ⟨hi16, h⟩ := ck_of h
      refine wd_iald hC hW 60 wP_c82 hi16 dX1_valueOfTry_32 ?_
      refine lv_aload hx hb dX1_valueOfTry_33 (lv_at hl 0 rfl) ?_
      refine lv_iload_n hx hb dX1_valueOfTry_35 rfl (lv_at hl 2 rfl) ?_
      refine lv_bipush (v := 41) hx hb dX1_valueOfTry_36 (by decide) ?_
      refine lv_imul hx hb dX1_valueOfTry_38 ?_
      refine lv_iload_n hx hb dX1_valueOfTry_39 rfl (lv_at hl 3 rfl) ?_
      refine lv_iadd hx hb dX1_valueOfTry_40 ?_
      obtain ⟨hi17, h⟩ := ck_of h
      refine wd_iald hC hW 62 wP_c84 hi17 dX1_valueOfTry_41 ?_
      refine lv_aload hx hb dX1_valueOfTry_42 (lv_at hl 0 rfl) ?_
      refine lv_iload_n hx hb dX1_valueOfTry_44 rfl (lv_at hl 3 rfl) ?_
      obtain ⟨hi18, h⟩ := ck_of h
      refine wd_iald hC hW 62 wP_c84 hi18 dX1_valueOfTry_45 ?_
      obtain ⟨r19, hr20, h⟩ := bd_of h
      refine wd_callSN1 (As := [.int (P.2.1 82 p0.toNatClampNeg), .int (P.2.1 84 ((p0 * 41) + p1).toNatClampNeg), .int (P.2.1 84 p1.toNatClampNeg)]) hC hW (c_X8_mix l D cy ad (wP ad cy P ++ X) S (P.2.1 82 p0.toNatClampNeg) (P.2.1 84 ((p0 * 41) + p1).toNatClampNeg) (P.2.1 84 p1.toNatClampNeg) r19 hr20) ⟨va_cnB 3 hts (gu_N w_27_23) rfl rfl rfl (hW.2.2.2.2.2.at 9 rfl) ci8 hdX8_mix ⟨Nat.le_of_ble_eq_true rfl, Nat.le_of_ble_eq_true rfl⟩, csmix, trivial⟩ rfl hl.1 rfl (Nat.le_of_ble_eq_true rfl) ⟨Nat.zero_le _, Nat.zero_le _⟩ dX1_valueOfTry_46 (fun H locs hW => ?_)
      obtain rfl := Option.some.inj h
      exact wd_iret hA hQ hC hr hk hW dX1_valueOfTry_49
    · replace h := ite_f h c15
      refine lv_aload_n hx hb dX1_valueOfTry_14 rfl (lv_at hl 0 rfl) ?_
      refine wd_get hC i1 hW 59 wP_c81 rfl 11 (Nat.le_of_ble_eq_true rfl) f47 rfl rfl dX1_valueOfTry_15 ?_
      refine lv_goto (tgt := 25) hx hb dX1_valueOfTry_18 (by decide) ?_
      refine lv_astore (lv' := [(5, .ref (ad 85)), (0, .ref (ad 81)), (1, .int p0), (2, .int p1), (3, .int p2), (4, .int p3)]) hx hb dX1_valueOfTry_25 hl (by decide) rfl (fun ls hl => ?_)
      refine lv_aload_n hx hb dX1_valueOfTry_27 rfl (lv_at hl 1 rfl) ?_
      refine wd_get hC i1 hW 59 wP_c81 rfl 8 (Nat.le_of_ble_eq_true rfl) f37 rfl rfl dX1_valueOfTry_28 ?_
      refine lv_iload_n hx hb dX1_valueOfTry_31 rfl (lv_at hl 2 rfl) ?_
      obtain ⟨hi21, h⟩ := ck_of h
      refine wd_iald hC hW 60 wP_c82 hi21 dX1_valueOfTry_32 ?_
      refine lv_aload hx hb dX1_valueOfTry_33 (lv_at hl 0 rfl) ?_
      refine lv_iload_n hx hb dX1_valueOfTry_35 rfl (lv_at hl 2 rfl) ?_
      refine lv_bipush (v := 41) hx hb dX1_valueOfTry_36 (by decide) ?_
      refine lv_imul hx hb dX1_valueOfTry_38 ?_
      refine lv_iload_n hx hb dX1_valueOfTry_39 rfl (lv_at hl 3 rfl) ?_
      refine lv_iadd hx hb dX1_valueOfTry_40 ?_
      obtain ⟨hi22, h⟩ := ck_of h
      refine wd_iald hC hW 63 wP_c85 hi22 dX1_valueOfTry_41 ?_
      refine lv_aload hx hb dX1_valueOfTry_42 (lv_at hl 0 rfl) ?_
      refine lv_iload_n hx hb dX1_valueOfTry_44 rfl (lv_at hl 3 rfl) ?_
      obtain ⟨hi23, h⟩ := ck_of h
      refine wd_iald hC hW 63 wP_c85 hi23 dX1_valueOfTry_45 ?_
      obtain ⟨r24, hr25, h⟩ := bd_of h
      refine wd_callSN1 (As := [.int (P.2.1 82 p0.toNatClampNeg), .int (P.2.1 85 ((p0 * 41) + p1).toNatClampNeg), .int (P.2.1 85 p1.toNatClampNeg)]) hC hW (c_X8_mix l D cy ad (wP ad cy P ++ X) S (P.2.1 82 p0.toNatClampNeg) (P.2.1 85 ((p0 * 41) + p1).toNatClampNeg) (P.2.1 85 p1.toNatClampNeg) r24 hr25) ⟨va_cnB 3 hts (gu_N w_27_23) rfl rfl rfl (hW.2.2.2.2.2.at 9 rfl) ci8 hdX8_mix ⟨Nat.le_of_ble_eq_true rfl, Nat.le_of_ble_eq_true rfl⟩, csmix, trivial⟩ rfl hl.1 rfl (Nat.le_of_ble_eq_true rfl) ⟨Nat.zero_le _, Nat.zero_le _⟩ dX1_valueOfTry_46 (fun H locs hW => ?_)
      obtain rfl := Option.some.inj h
      exact wd_iret hA hQ hC hr hk hW dX1_valueOfTry_49
def m_X1_fillField_L59 : Nat → St → St → Int32 → Int32 → Int32 → Int32 → Int32 → Int32 → Int32 → Int32 → Option (St)
  | 0, _, _, _, _, _, _, _, _, _, _ => none
  | n + 1, S, P, x1, x2, x3, x4, x5, x6, x7, x8 =>
    if x8 < (P.1 73) then (some P) else (if x8 < 1 then (some P) else ((m_X1_valueOfTry S P x6 x8 x1 x2).bind (fun r17 => (m_X1_isFirst S P x6 x8).bind (fun r19 => ((if r19 = 0 then (some (mn r17 x7)) else (ck x8 41 (some (mx r17 (P.2.1 89 x8.toNatClampNeg)))) : Option (Int32))).bind (fun q22 => ck (x3 + ((x6 * 41) + x8)) 15129 (nm (sA P 88 (x3 + ((x6 * 41) + x8)).toNatClampNeg q22) (fun P25 => ((if x1 ≤ 0 then (some P25) else (ck x8 41 (ck (x4 + ((x6 * 41) + x8)) 15129 (ck x8 41 (nm (sA P25 89 x8.toNatClampNeg (mx (P25.2.1 89 x8.toNatClampNeg) (P25.2.1 88 (x4 + ((x6 * 41) + x8)).toNatClampNeg))) (fun P37 => some P37))))) : Option (St))).bind (fun q28 => if x2 ≤ 0 then (m_X1_fillField_L59 n S q28 x1 x2 x3 x4 x5 x6 x7 (x8 + (-1))) else (ck (x5 + ((x6 * 41) + x8)) 15129 (nm (mn x7 (q28.2.1 88 (x5 + ((x6 * 41) + x8)).toNatClampNeg)) (fun v32 => m_X1_fillField_L59 n S q28 x1 x2 x3 x4 x5 x6 v32 (x8 + (-1)))))))))))))
theorem m_X1_fillField_L59_0 (S : St) (P : St) (x1 : Int32) (x2 : Int32) (x3 : Int32) (x4 : Int32) (x5 : Int32) (x6 : Int32) (x7 : Int32) (x8 : Int32) : m_X1_fillField_L59 0 S P x1 x2 x3 x4 x5 x6 x7 x8 = none := rfl
theorem m_X1_fillField_L59_s {n : Nat} {S : St} {P : St} {x1 : Int32} {x2 : Int32} {x3 : Int32} {x4 : Int32} {x5 : Int32} {x6 : Int32} {x7 : Int32} {x8 : Int32} : m_X1_fillField_L59 (n + 1) S P x1 x2 x3 x4 x5 x6 x7 x8 =
    (if x8 < (P.1 73) then (some P) else (if x8 < 1 then (some P) else ((m_X1_valueOfTry S P x6 x8 x1 x2).bind (fun r17 => (m_X1_isFirst S P x6 x8).bind (fun r19 => ((if r19 = 0 then (some (mn r17 x7)) else (ck x8 41 (some (mx r17 (P.2.1 89 x8.toNatClampNeg)))) : Option (Int32))).bind (fun q22 => ck (x3 + ((x6 * 41) + x8)) 15129 (nm (sA P 88 (x3 + ((x6 * 41) + x8)).toNatClampNeg q22) (fun P25 => ((if x1 ≤ 0 then (some P25) else (ck x8 41 (ck (x4 + ((x6 * 41) + x8)) 15129 (ck x8 41 (nm (sA P25 89 x8.toNatClampNeg (mx (P25.2.1 89 x8.toNatClampNeg) (P25.2.1 88 (x4 + ((x6 * 41) + x8)).toNatClampNeg))) (fun P37 => some P37))))) : Option (St))).bind (fun q28 => if x2 ≤ 0 then (m_X1_fillField_L59 n S q28 x1 x2 x3 x4 x5 x6 x7 (x8 + (-1))) else (ck (x5 + ((x6 * 41) + x8)) 15129 (nm (mn x7 (q28.2.1 88 (x5 + ((x6 * 41) + x8)).toNatClampNeg)) (fun v32 => m_X1_fillField_L59 n S q28 x1 x2 x3 x4 x5 x6 v32 (x8 + (-1)))))))))))))) := rfl
def m_X1_fillField_L36 : Nat → St → St → Int32 → Int32 → Int32 → Int32 → Int32 → Int32 → Option (St)
  | 0, _, _, _, _, _, _, _, _ => none
  | n + 1, S, P, x1, x2, x3, x4, x5, x6 =>
    if x6 < (P.1 72) then (some P) else (if x6 < 1 then (some P) else ((m_X1_fillField_L59 n S P x1 x2 x3 x4 x5 x6 1000001 40).bind (fun q13 => m_X1_fillField_L36 n S q13 x1 x2 x3 x4 x5 (x6 + (-1)))))
theorem m_X1_fillField_L36_0 (S : St) (P : St) (x1 : Int32) (x2 : Int32) (x3 : Int32) (x4 : Int32) (x5 : Int32) (x6 : Int32) : m_X1_fillField_L36 0 S P x1 x2 x3 x4 x5 x6 = none := rfl
theorem m_X1_fillField_L36_s {n : Nat} {S : St} {P : St} {x1 : Int32} {x2 : Int32} {x3 : Int32} {x4 : Int32} {x5 : Int32} {x6 : Int32} : m_X1_fillField_L36 (n + 1) S P x1 x2 x3 x4 x5 x6 =
    (if x6 < (P.1 72) then (some P) else (if x6 < 1 then (some P) else ((m_X1_fillField_L59 n S P x1 x2 x3 x4 x5 x6 1000001 40).bind (fun q13 => m_X1_fillField_L36 n S q13 x1 x2 x3 x4 x5 (x6 + (-1)))))) := rfl
def m_X1_fillField (n : Nat) (S : St) (P : St) (p0 : Int32) (p1 : Int32) : Option (St) :=
  (m_X1_fieldOf S P p0 p1).bind (fun r1 => (m_X1_fieldOf S P (p0 - 1) p1).bind (fun r3 => (m_X1_fieldOf S P p0 (p1 - 1)).bind (fun r5 => nm (sF P 89 (fun _ => (-1))) (fun P7 => (m_X1_fillField_L36 n S P7 p0 p1 r1 r3 r5 40).bind (fun q9 => some q9)))))
set_option maxHeartbeats 4000000 in
set_option maxRecDepth 100000 in
theorem c_X1_fillField (l : Launch) (D : va_G) (cy : Nat → ClassId) (ad : Nat → Nat) (X : va_W) (n : Nat) (S : St) (P : St) (p0 : Int32) (p1 : Int32) (r : (St)) (h : m_X1_fillField n S P p0 p1 = some r) : CT l yX1_fillField (wu yX1_fillField cX1_fillField 11 none) 2 D cy [.ref (ad 81), .int p0, .int p1] (wC ad cy S ++ (wP ad cy P ++ X)) (none) (wC ad cy S ++ (wP ad cy r ++ X)) := by
  refine CT.mk (cc := cX1_fillField) (maxL := 11) (ret := none) (own := RX1) (by decide) rfl rfl (Nat.le_of_ble_eq_true rfl) ?_
  intro p e s m args below meth c ls A Q hA hQ hC hr hk hW hl
  have hx := hC.1
  have hb := hC.2.1
  have hown := hC.2.2.2.1
  have hts := hC.2.2.2.2
  have hl : lv_has ls 11 [(0, .ref (ad 81)), (1, .int p0), (2, .int p1)] := hl
  have f59 := hts _ (wu_in w_43_21)
  have i1 := (fun w h => wu_in (inc_1 w h) : ∀ w ∈ u_ws RX1 TX1 16, w ∈ (wu yX1_fillField cX1_fillField 11 none))
  have f18 := hts _ (wu_in w_43_8)
  have k131 := hts _ (wu_in w_45_5)
  have f22 := hts _ (wu_in w_43_9)
  have f56 := hts _ (wu_in w_43_20)
  have ml103 := hts _ (wu_in w_44_15)
  have msmin := hts _ (wu_in w_40_1)
  have mi := hts _ (wu_in w_15_14)
  have mcmin := hts _ (wu_in w_40_2)
  have ml108 := hts _ (wu_in w_44_16)
  have msmax := hts _ (wu_in w_15_13)
  have mcmax := hts _ (wu_in w_15_15)
  unfold m_X1_fillField at h
  refine lv_iload_n hx hb dX1_fillField_0 rfl (lv_at hl 1 rfl) ?_
  refine lv_iload_n hx hb dX1_fillField_1 rfl (lv_at hl 2 rfl) ?_
  obtain ⟨r1, hr2, h⟩ := bd_of h
  refine wd_callS1 (As := [.int p0, .int p1]) hC hW (c_X1_fieldOf l D cy ad X S P p0 p1 r1 hr2) (va_cwS 2 hts (gu_S w_45_8 w_45_6 w_45_7 w_43_2) rfl rfl rfl hdX1_fieldOf ⟨Nat.le_of_ble_eq_true rfl, Nat.le_of_ble_eq_true rfl⟩) rfl hl.1 rfl (Nat.le_of_ble_eq_true rfl) ⟨Nat.zero_le _, Nat.zero_le _⟩ dX1_fillField_2 (fun H locs hW => ?_)
  refine lv_istore_n (lv' := [(3, .int r1), (0, .ref (ad 81)), (1, .int p0), (2, .int p1)]) hx hb dX1_fillField_5 rfl hl (by decide) rfl (fun ls hl => ?_)
  refine lv_iload_n hx hb dX1_fillField_6 rfl (lv_at hl 2 rfl) ?_
  refine lv_iconst (v := 1) hx hb dX1_fillField_7 (by decide) ?_
  refine lv_isub hx hb dX1_fillField_8 ?_
  refine lv_iload_n hx hb dX1_fillField_9 rfl (lv_at hl 3 rfl) ?_
  obtain ⟨r3, hr4, h⟩ := bd_of h
  refine wd_callS1 (As := [.int (p0 - 1), .int p1]) hC hW (c_X1_fieldOf l D cy ad X S P (p0 - 1) p1 r3 hr4) (va_cwS 2 hts (gu_S w_45_8 w_45_6 w_45_7 w_43_2) rfl rfl rfl hdX1_fieldOf ⟨Nat.le_of_ble_eq_true rfl, Nat.le_of_ble_eq_true rfl⟩) rfl hl.1 rfl (Nat.le_of_ble_eq_true rfl) ⟨Nat.zero_le _, Nat.zero_le _⟩ dX1_fillField_10 (fun H locs hW => ?_)
  refine lv_istore (lv' := [(4, .int r3), (3, .int r1), (0, .ref (ad 81)), (1, .int p0), (2, .int p1)]) hx hb dX1_fillField_13 hl (by decide) rfl (fun ls hl => ?_)
  refine lv_iload_n hx hb dX1_fillField_15 rfl (lv_at hl 3 rfl) ?_
  refine lv_iload_n hx hb dX1_fillField_16 rfl (lv_at hl 4 rfl) ?_
  refine lv_iconst (v := 1) hx hb dX1_fillField_17 (by decide) ?_
  refine lv_isub hx hb dX1_fillField_18 ?_
  obtain ⟨r5, hr6, h⟩ := bd_of h
  refine wd_callS1 (As := [.int p0, .int (p1 - 1)]) hC hW (c_X1_fieldOf l D cy ad X S P p0 (p1 - 1) r5 hr6) (va_cwS 2 hts (gu_S w_45_8 w_45_6 w_45_7 w_43_2) rfl rfl rfl hdX1_fieldOf ⟨Nat.le_of_ble_eq_true rfl, Nat.le_of_ble_eq_true rfl⟩) rfl hl.1 rfl (Nat.le_of_ble_eq_true rfl) ⟨Nat.zero_le _, Nat.zero_le _⟩ dX1_fillField_19 (fun H locs hW => ?_)
  refine lv_istore (lv' := [(5, .int r5), (4, .int r3), (3, .int r1), (0, .ref (ad 81)), (1, .int p0), (2, .int p1)]) hx hb dX1_fillField_22 hl (by decide) rfl (fun ls hl => ?_)
  refine lv_aload_n hx hb dX1_fillField_24 rfl (lv_at hl 3 rfl) ?_
  refine wd_get hC i1 hW 59 wP_c81 rfl 15 (Nat.le_of_ble_eq_true rfl) f59 rfl rfl dX1_fillField_25 ?_
  refine lv_iconst (v := (-1)) hx hb dX1_fillField_28 (by decide) ?_
  refine wd_callS0 (As := [.ref (ad 89), .int (-1)]) hC hW (c_fill l D cy 67 (ad 89) 41 _ (-1) wP_c89 (by decide) wP_f89) (va_cwS 2 hts (gu_S w_26_0 w_45_9 w_25_22 w_25_23) rfl rfl rfl hdJ7_fill_53178 ⟨Nat.le_of_ble_eq_true rfl, Nat.le_of_ble_eq_true rfl⟩) rfl hl.1 rfl (Nat.le_of_ble_eq_true rfl) ⟨Nat.zero_le _, Nat.zero_le _⟩ dX1_fillField_29 (fun H locs hW => ?_)
  obtain ⟨P7, e8, h⟩ := nm_of h
  replace hW := wq_P e8 hW
  refine lv_bipush (v := 40) hx hb dX1_fillField_32 (by decide) ?_
  refine lv_istore (lv' := [(6, .int 40), (5, .int r5), (4, .int r3), (3, .int r1), (0, .ref (ad 81)), (1, .int p0), (2, .int p1)]) hx hb dX1_fillField_34 hl (by decide) rfl (fun ls hl => ?_)
  have hL36 : ∀ (n : Nat) (P : St) (x1 : Int32) (x2 : Int32) (x3 : Int32) (x4 : Int32) (x5 : Int32) (x6 : Int32)  (H : Heap) (locs : List Loc) (ls : Array Slot) (r : (St)), m_X1_fillField_L36 n S P x1 x2 x3 x4 x5 x6 = some r → Wd D cy A s (wC ad cy S ++ (wP ad cy P ++ X)) H locs → lv_has ls 11 [(0, .ref (ad 81)), (1, .int x1), (2, .int x2), (3, .int x3), (4, .int x4), (5, .int x5), (6, .int x6)] → (∀ (H : Heap) (locs : List Loc) (ls : Array Slot), Wd D cy A s (wC ad cy S ++ (wP ad cy r ++ X)) H locs → lv_has ls 11 [(0, .ref (ad 81)), (1, .int x1), (2, .int x2), (3, .int x3), (4, .int x4), (5, .int x5)] → W p l e (RM 2) s m args below meth c H locs 0 0 Q (F0 m 208 ls [])) → W p l e (RM 2) s m args below meth c H locs 0 0 Q (F0 m 36 ls []) := by
    intro n
    induction n with
    | zero =>
      intro P x1 x2 x3 x4 x5 x6  H locs ls r h
      exact absurd (h.symm.trans (m_X1_fillField_L36_0 ..)) (by simp)
    | succ n ih =>
      intro P x1 x2 x3 x4 x5 x6  H locs ls r h hW hl kk
      rw [m_X1_fillField_L36_s] at h
      refine lv_iload hx hb dX1_fillField_36 (lv_at hl 6 rfl) ?_
      refine lv_aload_n hx hb dX1_fillField_38 rfl (lv_at hl 0 rfl) ?_
      refine wd_get hC i1 hW 59 wP_c81 rfl 2 (Nat.le_of_ble_eq_true rfl) f18 rfl rfl dX1_fillField_39 ?_
      refine lv_icmp_lt (tgt := 208) hx hb dX1_fillField_42 (by decide) (fun c11 => ?_) (fun c11 => ?_)
      · replace h := ite_t h c11
        obtain rfl := Option.some.inj h
        exact kk _ _ _ hW (lv_sub hl [0, 1, 2, 3, 4, 5] rfl)
      · replace h := ite_f h c11
        refine lv_iload hx hb dX1_fillField_45 (lv_at hl 6 rfl) ?_
        refine lv_iconst (v := 1) hx hb dX1_fillField_47 (by decide) ?_
        refine lv_icmp_lt (tgt := 208) hx hb dX1_fillField_48 (by decide) (fun c12 => ?_) (fun c12 => ?_)
        · replace h := ite_t h c12
          obtain rfl := Option.some.inj h
          exact kk _ _ _ hW (lv_sub hl [0, 1, 2, 3, 4, 5] rfl)
        · replace h := ite_f h c12
          refine lv_ldc hx hb hown k131 dX1_fillField_51 ?_
          refine lv_istore (lv' := [(7, .int 1000001), (0, .ref (ad 81)), (1, .int x1), (2, .int x2), (3, .int x3), (4, .int x4), (5, .int x5), (6, .int x6)]) hx hb dX1_fillField_53 hl (by decide) rfl (fun ls hl => ?_)
          refine lv_bipush (v := 40) hx hb dX1_fillField_55 (by decide) ?_
          refine lv_istore (lv' := [(8, .int 40), (7, .int 1000001), (0, .ref (ad 81)), (1, .int x1), (2, .int x2), (3, .int x3), (4, .int x4), (5, .int x5), (6, .int x6)]) hx hb dX1_fillField_57 hl (by decide) rfl (fun ls hl => ?_)
          have hL59 : ∀ (n : Nat) (P : St) (x1 : Int32) (x2 : Int32) (x3 : Int32) (x4 : Int32) (x5 : Int32) (x6 : Int32) (x7 : Int32) (x8 : Int32)  (H : Heap) (locs : List Loc) (ls : Array Slot) (r : (St)), m_X1_fillField_L59 n S P x1 x2 x3 x4 x5 x6 x7 x8 = some r → Wd D cy A s (wC ad cy S ++ (wP ad cy P ++ X)) H locs → lv_has ls 11 [(0, .ref (ad 81)), (1, .int x1), (2, .int x2), (3, .int x3), (4, .int x4), (5, .int x5), (6, .int x6), (7, .int x7), (8, .int x8)] → (∀ (H : Heap) (locs : List Loc) (ls : Array Slot), Wd D cy A s (wC ad cy S ++ (wP ad cy r ++ X)) H locs → lv_has ls 11 [(0, .ref (ad 81)), (1, .int x1), (2, .int x2), (3, .int x3), (4, .int x4), (5, .int x5), (6, .int x6)] → W p l e (RM 2) s m args below meth c H locs 0 0 Q (F0 m 202 ls [])) → W p l e (RM 2) s m args below meth c H locs 0 0 Q (F0 m 59 ls []) := by
            intro n
            induction n with
            | zero =>
              intro P x1 x2 x3 x4 x5 x6 x7 x8  H locs ls r h
              exact absurd (h.symm.trans (m_X1_fillField_L59_0 ..)) (by simp)
            | succ n ih =>
              intro P x1 x2 x3 x4 x5 x6 x7 x8  H locs ls r h hW hl kk
              rw [m_X1_fillField_L59_s] at h
              refine lv_iload hx hb dX1_fillField_59 (lv_at hl 8 rfl) ?_
              refine lv_aload_n hx hb dX1_fillField_61 rfl (lv_at hl 0 rfl) ?_
              refine wd_get hC i1 hW 59 wP_c81 rfl 3 (Nat.le_of_ble_eq_true rfl) f22 rfl rfl dX1_fillField_62 ?_
              refine lv_icmp_lt (tgt := 202) hx hb dX1_fillField_65 (by decide) (fun c15 => ?_) (fun c15 => ?_)
              · replace h := ite_t h c15
                obtain rfl := Option.some.inj h
                exact kk _ _ _ hW (lv_sub hl [0, 1, 2, 3, 4, 5, 6] rfl)
              · replace h := ite_f h c15
                refine lv_iload hx hb dX1_fillField_68 (lv_at hl 8 rfl) ?_
                refine lv_iconst (v := 1) hx hb dX1_fillField_70 (by decide) ?_
                refine lv_icmp_lt (tgt := 202) hx hb dX1_fillField_71 (by decide) (fun c16 => ?_) (fun c16 => ?_)
                · replace h := ite_t h c16
                  obtain rfl := Option.some.inj h
                  exact kk _ _ _ hW (lv_sub hl [0, 1, 2, 3, 4, 5, 6] rfl)
                · replace h := ite_f h c16
                  refine lv_iload hx hb dX1_fillField_74 (lv_at hl 6 rfl) ?_
                  refine lv_bipush (v := 41) hx hb dX1_fillField_76 (by decide) ?_
                  refine lv_imul hx hb dX1_fillField_78 ?_
                  refine lv_iload hx hb dX1_fillField_79 (lv_at hl 8 rfl) ?_
                  refine lv_iadd hx hb dX1_fillField_81 ?_
                  refine lv_istore (lv' := [(9, .int ((x6 * 41) + x8)), (0, .ref (ad 81)), (1, .int x1), (2, .int x2), (3, .int x3), (4, .int x4), (5, .int x5), (6, .int x6), (7, .int x7), (8, .int x8)]) hx hb dX1_fillField_82 hl (by decide) rfl (fun ls hl => ?_)
                  refine lv_aload_n hx hb dX1_fillField_84 rfl (lv_at hl 1 rfl) ?_
                  refine lv_iload hx hb dX1_fillField_85 (lv_at hl 7 rfl) ?_
                  refine lv_iload hx hb dX1_fillField_87 (lv_at hl 9 rfl) ?_
                  refine lv_iload_n hx hb dX1_fillField_89 rfl (lv_at hl 2 rfl) ?_
                  refine lv_iload_n hx hb dX1_fillField_90 rfl (lv_at hl 3 rfl) ?_
                  obtain ⟨r17, hr18, h⟩ := bd_of h
                  refine wd_callV1 (As := [.int x6, .int x8, .int x1, .int x2]) hC hW 59 wP_c81 rfl (c_X1_valueOfTry l D cy ad X S P x6 x8 x1 x2 r17 hr18) (cwV 4 hts (gu_V w_45_13 w_45_10 w_45_11 w_45_12 w_43_2) rfl rfl rfl hdX1_valueOfTry ⟨Nat.le_of_ble_eq_true rfl, Nat.le_of_ble_eq_true rfl⟩) rfl hl.1 rfl (Nat.le_of_ble_eq_true rfl) ⟨Nat.zero_le _, Nat.zero_le _⟩ dX1_fillField_91 (fun H locs hW => ?_)
                  refine lv_istore (lv' := [(10, .int r17), (9, .int ((x6 * 41) + x8)), (0, .ref (ad 81)), (1, .int x1), (2, .int x2), (3, .int x3), (4, .int x4), (5, .int x5), (6, .int x6), (7, .int x7), (8, .int x8)]) hx hb dX1_fillField_94 hl (by decide) rfl (fun ls hl => ?_)
                  refine lv_aload_n hx hb dX1_fillField_96 rfl (lv_at hl 2 rfl) ?_
                  refine lv_iload hx hb dX1_fillField_97 (lv_at hl 8 rfl) ?_
                  refine lv_iload hx hb dX1_fillField_99 (lv_at hl 10 rfl) ?_
                  obtain ⟨r19, hr20, h⟩ := bd_of h
                  refine wd_callV1 (As := [.int x6, .int x8]) hC hW 59 wP_c81 rfl (c_X1_isFirst l D cy ad X S P x6 x8 r19 hr20) (cwV 2 hts (gu_V w_45_17 w_45_14 w_45_15 w_45_16 w_43_2) rfl rfl rfl hdX1_isFirst ⟨Nat.le_of_ble_eq_true rfl, Nat.le_of_ble_eq_true rfl⟩) rfl hl.1 rfl (Nat.le_of_ble_eq_true rfl) ⟨Nat.zero_le _, Nat.zero_le _⟩ dX1_fillField_101 (fun H locs hW => ?_)
                  obtain ⟨q22, hq23, h⟩ := bd_of h
                  have hJ133 : ∀ (H : Heap) (locs : List Loc) (ls : Array Slot), Wd D cy A s (wC ad cy S ++ (wP ad cy P ++ X)) H locs → lv_has ls 11 [(10, .int q22), (9, .int ((x6 * 41) + x8)), (0, .ref (ad 81)), (1, .int x1), (2, .int x2), (3, .int x3), (4, .int x4), (5, .int x5), (6, .int x6), (7, .int x7), (8, .int x8)] → W p l e (RM 2) s m args below meth c H locs 0 0 Q (F0 m 133 ls []) := by
                    intro H locs ls hW hl
                    refine lv_aload_n hx hb dX1_fillField_133 rfl (lv_at hl 2 rfl) ?_
                    refine wd_get hC i1 hW 59 wP_c81 rfl 14 (Nat.le_of_ble_eq_true rfl) f56 rfl rfl dX1_fillField_134 ?_
                    refine lv_iload_n hx hb dX1_fillField_137 rfl (lv_at hl 5 rfl) ?_
                    refine lv_iload hx hb dX1_fillField_138 (lv_at hl 1 rfl) ?_
                    refine lv_iadd hx hb dX1_fillField_140 ?_
                    refine lv_iload hx hb dX1_fillField_141 (lv_at hl 0 rfl) ?_
                    obtain ⟨hi24, h⟩ := ck_of h
                    refine wd_iast hC hW 66 wP_c88 hi24 wP_t88 dX1_fillField_143 (fun H locs hW => ?_)
                    obtain ⟨P25, e26, h⟩ := nm_of h
                    replace hW := wq_P e26 hW
                    refine lv_iload_n hx hb dX1_fillField_144 rfl (lv_at hl 3 rfl) ?_
                    obtain ⟨q28, hq29, h⟩ := bd_of h
                    have hJ175 : ∀ (H : Heap) (locs : List Loc) (ls : Array Slot), Wd D cy A s (wC ad cy S ++ (wP ad cy q28 ++ X)) H locs → lv_has ls 11 [(10, .int q22), (9, .int ((x6 * 41) + x8)), (0, .ref (ad 81)), (1, .int x1), (2, .int x2), (3, .int x3), (4, .int x4), (5, .int x5), (6, .int x6), (7, .int x7), (8, .int x8)] → W p l e (RM 2) s m args below meth c H locs 0 0 Q (F0 m 175 ls []) := by
                      intro H locs ls hW hl
                      refine lv_iload_n hx hb dX1_fillField_175 rfl (lv_at hl 4 rfl) ?_
                      refine lv_if_le (tgt := 196) hx hb dX1_fillField_176 (by decide) (fun c30 => ?_) (fun c30 => ?_)
                      · replace h := ite_t h c30
                        refine lv_iinc (v := x8 + (-1)) (lv' := [(8, .int (x8 + (-1))), (10, .int q22), (9, .int ((x6 * 41) + x8)), (0, .ref (ad 81)), (1, .int x1), (2, .int x2), (3, .int x3), (4, .int x4), (5, .int x5), (6, .int x6), (7, .int x7)]) hx hb dX1_fillField_196 hl (k := 10) rfl rfl (by decide) rfl (fun ls hl => ?_)
                        refine lv_goto (tgt := 59) hx hb dX1_fillField_199 (by decide) ?_
                        exact ih q28 x1 x2 x3 x4 x5 x6 x7 (x8 + (-1)) _ _ _ r h hW (lv_sub hl [3, 4, 5, 6, 7, 8, 9, 10, 0] rfl) kk
                      · replace h := ite_f h c30
                        refine lv_iload hx hb dX1_fillField_179 (lv_at hl 9 rfl) ?_
                        refine lv_aload_n hx hb dX1_fillField_181 rfl (lv_at hl 2 rfl) ?_
                        refine wd_get hC i1 hW 59 wP_c81 rfl 14 (Nat.le_of_ble_eq_true rfl) f56 rfl rfl dX1_fillField_182 ?_
                        refine lv_iload hx hb dX1_fillField_185 (lv_at hl 7 rfl) ?_
                        refine lv_iload hx hb dX1_fillField_187 (lv_at hl 1 rfl) ?_
                        refine lv_iadd hx hb dX1_fillField_189 ?_
                        obtain ⟨hi31, h⟩ := ck_of h
                        refine wd_iald hC hW 66 wP_c88 hi31 dX1_fillField_190 ?_
                        refine wd_min hC hl.1 ml103 msmin mi mcmin (Nat.le_of_ble_eq_true rfl) (Nat.le_of_ble_eq_true rfl) (Nat.zero_le _) (Nat.zero_le _) dX1_fillField_191 ?_
                        refine lv_topi (fun v32 ev33 => ?_)
                        replace h := nm_eq h ev33
                        refine lv_istore (lv' := [(7, .int v32), (10, .int q22), (9, .int ((x6 * 41) + x8)), (0, .ref (ad 81)), (1, .int x1), (2, .int x2), (3, .int x3), (4, .int x4), (5, .int x5), (6, .int x6), (8, .int x8)]) hx hb dX1_fillField_194 hl (by decide) rfl (fun ls hl => ?_)
                        refine lv_iinc (v := x8 + (-1)) (lv' := [(8, .int (x8 + (-1))), (7, .int v32), (10, .int q22), (9, .int ((x6 * 41) + x8)), (0, .ref (ad 81)), (1, .int x1), (2, .int x2), (3, .int x3), (4, .int x4), (5, .int x5), (6, .int x6)]) hx hb dX1_fillField_196 hl (k := 10) rfl rfl (by decide) rfl (fun ls hl => ?_)
                        refine lv_goto (tgt := 59) hx hb dX1_fillField_199 (by decide) ?_
                        exact ih q28 x1 x2 x3 x4 x5 x6 v32 (x8 + (-1)) _ _ _ r h hW (lv_sub hl [4, 5, 6, 7, 8, 9, 10, 1, 0] rfl) kk
                    replace h := hq29
                    refine lv_if_le (tgt := 175) hx hb dX1_fillField_145 (by decide) (fun c27 => ?_) (fun c27 => ?_)
                    · replace h := ite_t h c27
                      obtain rfl := Option.some.inj h
                      exact hJ175 _ _ _ hW (lv_sub hl [0, 1, 2, 3, 4, 5, 6, 7, 8, 9, 10] rfl)
                    · replace h := ite_f h c27
                      refine lv_aload_n hx hb dX1_fillField_148 rfl (lv_at hl 2 rfl) ?_
                      refine wd_get hC i1 hW 59 wP_c81 rfl 15 (Nat.le_of_ble_eq_true rfl) f59 rfl rfl dX1_fillField_149 ?_
                      refine lv_iload hx hb dX1_fillField_152 (lv_at hl 10 rfl) ?_
                      refine lv_aload_n hx hb dX1_fillField_154 rfl (lv_at hl 2 rfl) ?_
                      refine wd_get hC i1 hW 59 wP_c81 rfl 15 (Nat.le_of_ble_eq_true rfl) f59 rfl rfl dX1_fillField_155 ?_
                      refine lv_iload hx hb dX1_fillField_158 (lv_at hl 10 rfl) ?_
                      obtain ⟨hi34, h⟩ := ck_of h
                      refine wd_iald hC hW 67 wP_c89 hi34 dX1_fillField_160 ?_
                      refine lv_aload_n hx hb dX1_fillField_161 rfl (lv_at hl 2 rfl) ?_
                      refine wd_get hC i1 hW 59 wP_c81 rfl 14 (Nat.le_of_ble_eq_true rfl) f56 rfl rfl dX1_fillField_162 ?_
                      refine lv_iload hx hb dX1_fillField_165 (lv_at hl 6 rfl) ?_
                      refine lv_iload hx hb dX1_fillField_167 (lv_at hl 1 rfl) ?_
                      refine lv_iadd hx hb dX1_fillField_169 ?_
                      obtain ⟨hi35, h⟩ := ck_of h
                      refine wd_iald hC hW 66 wP_c88 hi35 dX1_fillField_170 ?_
                      refine wd_max hC hl.1 ml108 msmax mi mcmax (Nat.le_of_ble_eq_true rfl) (Nat.le_of_ble_eq_true rfl) (Nat.zero_le _) (Nat.zero_le _) dX1_fillField_171 ?_
                      obtain ⟨hi36, h⟩ := ck_of h
                      refine wd_iast hC hW 67 wP_c89 hi36 wP_t89 dX1_fillField_174 (fun H locs hW => ?_)
                      obtain ⟨P37, e38, h⟩ := nm_of h
                      replace hW := wq_P e38 hW
                      obtain rfl := Option.some.inj h
                      exact hJ175 _ _ _ hW (lv_sub hl [0, 1, 2, 3, 4, 5, 6, 7, 8, 9, 10] rfl)
                  replace h := hq23
                  refine lv_if_eq (tgt := 124) hx hb dX1_fillField_104 (by decide) (fun c21 => ?_) (fun c21 => ?_)
                  · replace h := ite_t h c21
                    refine lv_iload hx hb dX1_fillField_124 (lv_at hl 0 rfl) ?_
                    refine lv_iload hx hb dX1_fillField_126 (lv_at hl 9 rfl) ?_
                    refine wd_min hC hl.1 ml103 msmin mi mcmin (Nat.le_of_ble_eq_true rfl) (Nat.le_of_ble_eq_true rfl) (Nat.zero_le _) (Nat.zero_le _) dX1_fillField_128 ?_
                    refine lv_istore (lv' := [(10, .int (mn r17 x7)), (9, .int ((x6 * 41) + x8)), (0, .ref (ad 81)), (1, .int x1), (2, .int x2), (3, .int x3), (4, .int x4), (5, .int x5), (6, .int x6), (7, .int x7), (8, .int x8)]) hx hb dX1_fillField_131 hl (by decide) rfl (fun ls hl => ?_)
                    obtain rfl := Option.some.inj h
                    exact hJ133 _ _ _ hW (lv_sub hl [0, 1, 2, 3, 4, 5, 6, 7, 8, 9, 10] rfl)
                  · replace h := ite_f h c21
                    refine lv_iload hx hb dX1_fillField_107 (lv_at hl 0 rfl) ?_
                    refine lv_aload_n hx hb dX1_fillField_109 rfl (lv_at hl 2 rfl) ?_
                    refine wd_get hC i1 hW 59 wP_c81 rfl 15 (Nat.le_of_ble_eq_true rfl) f59 rfl rfl dX1_fillField_110 ?_
                    refine lv_iload hx hb dX1_fillField_113 (lv_at hl 10 rfl) ?_
                    obtain ⟨hi39, h⟩ := ck_of h
                    refine wd_iald hC hW 67 wP_c89 hi39 dX1_fillField_115 ?_
                    refine wd_max hC hl.1 ml108 msmax mi mcmax (Nat.le_of_ble_eq_true rfl) (Nat.le_of_ble_eq_true rfl) (Nat.zero_le _) (Nat.zero_le _) dX1_fillField_116 ?_
                    refine lv_istore (lv' := [(10, .int (mx r17 (P.2.1 89 x8.toNatClampNeg))), (9, .int ((x6 * 41) + x8)), (0, .ref (ad 81)), (1, .int x1), (2, .int x2), (3, .int x3), (4, .int x4), (5, .int x5), (6, .int x6), (7, .int x7), (8, .int x8)]) hx hb dX1_fillField_119 hl (by decide) rfl (fun ls hl => ?_)
                    refine lv_goto (tgt := 133) hx hb dX1_fillField_121 (by decide) ?_
                    obtain rfl := Option.some.inj h
                    exact hJ133 _ _ _ hW (lv_sub hl [0, 1, 2, 3, 4, 5, 6, 7, 8, 9, 10] rfl)
          obtain ⟨q13, hq14, h⟩ := bd_of h
          refine hL59 n P x1 x2 x3 x4 x5 x6 1000001 40  _ _ _ q13 hq14 hW (lv_sub hl [2, 3, 4, 5, 6, 7, 8, 1, 0] rfl) (fun H locs ls hW hl => ?_)
          refine lv_iinc (v := x6 + (-1)) (lv' := [(6, .int (x6 + (-1))), (0, .ref (ad 81)), (1, .int x1), (2, .int x2), (3, .int x3), (4, .int x4), (5, .int x5)]) hx hb dX1_fillField_202 hl (k := 6) rfl rfl (by decide) rfl (fun ls hl => ?_)
          refine lv_goto (tgt := 36) hx hb dX1_fillField_205 (by decide) ?_
          exact ih q13 x1 x2 x3 x4 x5 (x6 + (-1)) _ _ _ r h hW (lv_sub hl [1, 2, 3, 4, 5, 6, 0] rfl) kk
  obtain ⟨q9, hq10, h⟩ := bd_of h
  refine hL36 n P7 p0 p1 r1 r3 r5 40  _ _ _ q9 hq10 hW (lv_sub hl [4, 5, 6, 3, 2, 1, 0] rfl) (fun H locs ls hW hl => ?_)
  obtain rfl := Option.some.inj h
  exact wd_vret hA hQ hC hr hk hW dX1_fillField_208
def m_X1_solve_L15 : Nat → St → St → Int32 → Int32 → Int32 → Int32 → Option (St)
  | 0, _, _, _, _, _, _ => none
  | n + 1, S, P, x1, x2, x3, x4 =>
    if x2 < x4 then (some P) else (if 3 ≤ x4 then (some P) else ((m_X1_fillField n S P x3 x4).bind (fun r9 => m_X1_solve_L15 n S r9 x1 x2 x3 (x4 + 1))))
theorem m_X1_solve_L15_0 (S : St) (P : St) (x1 : Int32) (x2 : Int32) (x3 : Int32) (x4 : Int32) : m_X1_solve_L15 0 S P x1 x2 x3 x4 = none := rfl
theorem m_X1_solve_L15_s {n : Nat} {S : St} {P : St} {x1 : Int32} {x2 : Int32} {x3 : Int32} {x4 : Int32} : m_X1_solve_L15 (n + 1) S P x1 x2 x3 x4 =
    (if x2 < x4 then (some P) else (if 3 ≤ x4 then (some P) else ((m_X1_fillField n S P x3 x4).bind (fun r9 => m_X1_solve_L15 n S r9 x1 x2 x3 (x4 + 1))))) := rfl
def m_X1_solve_L2 : Nat → St → St → Int32 → Int32 → Int32 → Option (St)
  | 0, _, _, _, _, _ => none
  | n + 1, S, P, x1, x2, x3 =>
    if x1 < x3 then (some P) else (if 3 ≤ x3 then (some P) else ((m_X1_solve_L15 n S P x1 x2 x3 0).bind (fun q5 => m_X1_solve_L2 n S q5 x1 x2 (x3 + 1))))
theorem m_X1_solve_L2_0 (S : St) (P : St) (x1 : Int32) (x2 : Int32) (x3 : Int32) : m_X1_solve_L2 0 S P x1 x2 x3 = none := rfl
theorem m_X1_solve_L2_s {n : Nat} {S : St} {P : St} {x1 : Int32} {x2 : Int32} {x3 : Int32} : m_X1_solve_L2 (n + 1) S P x1 x2 x3 =
    (if x1 < x3 then (some P) else (if 3 ≤ x3 then (some P) else ((m_X1_solve_L15 n S P x1 x2 x3 0).bind (fun q5 => m_X1_solve_L2 n S q5 x1 x2 (x3 + 1))))) := rfl
def m_X1_solve (n : Nat) (S : St) (P : St) (p0 : Int32) (p1 : Int32) : Option (Int32 × St) :=
  (m_X1_solve_L2 n S P p0 p1 0).bind (fun q1 => (m_X1_valueAt S q1 p0 p1).bind (fun r11 => some (r11, q1)))
set_option maxHeartbeats 4000000 in
set_option maxRecDepth 100000 in
theorem c_X1_solve (l : Launch) (D : va_G) (cy : Nat → ClassId) (ad : Nat → Nat) (X : va_W) (n : Nat) (S : St) (P : St) (p0 : Int32) (p1 : Int32) (r : (Int32 × St)) (h : m_X1_solve n S P p0 p1 = some r) : CT l yX1_solve (wu yX1_solve cX1_solve 5 (some .int)) 3 D cy [.ref (ad 81), .int p0, .int p1] (wC ad cy S ++ (wP ad cy P ++ X)) (some (.int r.1)) (wC ad cy S ++ (wP ad cy r.2 ++ X)) := by
  refine CT.mk (cc := cX1_solve) (maxL := 5) (ret := (some .int)) (own := RX1) (by decide) rfl rfl (Nat.le_of_ble_eq_true rfl) ?_
  intro p e s m args below meth c ls A Q hA hQ hC hr hk hW hl
  have hx := hC.1
  have hb := hC.2.1
  have hown := hC.2.2.2.1
  have hts := hC.2.2.2.2
  have hl : lv_has ls 5 [(0, .ref (ad 81)), (1, .int p0), (2, .int p1)] := hl
  unfold m_X1_solve at h
  refine lv_iconst (v := 0) hx hb dX1_solve_0 (by decide) ?_
  refine lv_istore_n (lv' := [(3, .int 0), (0, .ref (ad 81)), (1, .int p0), (2, .int p1)]) hx hb dX1_solve_1 rfl hl (by decide) rfl (fun ls hl => ?_)
  have hL2 : ∀ (n : Nat) (P : St) (x1 : Int32) (x2 : Int32) (x3 : Int32)  (H : Heap) (locs : List Loc) (ls : Array Slot) (r : (St)), m_X1_solve_L2 n S P x1 x2 x3 = some r → Wd D cy A s (wC ad cy S ++ (wP ad cy P ++ X)) H locs → lv_has ls 5 [(0, .ref (ad 81)), (1, .int x1), (2, .int x2), (3, .int x3)] → (∀ (H : Heap) (locs : List Loc) (ls : Array Slot), Wd D cy A s (wC ad cy S ++ (wP ad cy r ++ X)) H locs → lv_has ls 5 [(0, .ref (ad 81)), (1, .int x1), (2, .int x2)] → W p l e (RM 3) s m args below meth c H locs 0 0 Q (F0 m 46 ls [])) → W p l e (RM 3) s m args below meth c H locs 0 0 Q (F0 m 2 ls []) := by
    intro n
    induction n with
    | zero =>
      intro P x1 x2 x3  H locs ls r h
      exact absurd (h.symm.trans (m_X1_solve_L2_0 ..)) (by simp)
    | succ n ih =>
      intro P x1 x2 x3  H locs ls r h hW hl kk
      rw [m_X1_solve_L2_s] at h
      refine lv_iload_n hx hb dX1_solve_2 rfl (lv_at hl 3 rfl) ?_
      refine lv_iload_n hx hb dX1_solve_3 rfl (lv_at hl 1 rfl) ?_
      refine lv_icmp_gt (tgt := 46) hx hb dX1_solve_4 (by decide) (fun c3 => ?_) (fun c3 => ?_)
      · replace h := ite_t h c3
        obtain rfl := Option.some.inj h
        exact kk _ _ _ hW (lv_sub hl [0, 1, 2] rfl)
      · replace h := ite_f h c3
        refine lv_iload_n hx hb dX1_solve_7 rfl (lv_at hl 3 rfl) ?_
        refine lv_iconst (v := 3) hx hb dX1_solve_8 (by decide) ?_
        refine lv_icmp_ge (tgt := 46) hx hb dX1_solve_9 (by decide) (fun c4 => ?_) (fun c4 => ?_)
        · replace h := ite_t h c4
          obtain rfl := Option.some.inj h
          exact kk _ _ _ hW (lv_sub hl [0, 1, 2] rfl)
        · replace h := ite_f h c4
          refine lv_iconst (v := 0) hx hb dX1_solve_12 (by decide) ?_
          refine lv_istore (lv' := [(4, .int 0), (0, .ref (ad 81)), (1, .int x1), (2, .int x2), (3, .int x3)]) hx hb dX1_solve_13 hl (by decide) rfl (fun ls hl => ?_)
          have hL15 : ∀ (n : Nat) (P : St) (x1 : Int32) (x2 : Int32) (x3 : Int32) (x4 : Int32)  (H : Heap) (locs : List Loc) (ls : Array Slot) (r : (St)), m_X1_solve_L15 n S P x1 x2 x3 x4 = some r → Wd D cy A s (wC ad cy S ++ (wP ad cy P ++ X)) H locs → lv_has ls 5 [(0, .ref (ad 81)), (1, .int x1), (2, .int x2), (3, .int x3), (4, .int x4)] → (∀ (H : Heap) (locs : List Loc) (ls : Array Slot), Wd D cy A s (wC ad cy S ++ (wP ad cy r ++ X)) H locs → lv_has ls 5 [(0, .ref (ad 81)), (1, .int x1), (2, .int x2), (3, .int x3)] → W p l e (RM 3) s m args below meth c H locs 0 0 Q (F0 m 40 ls [])) → W p l e (RM 3) s m args below meth c H locs 0 0 Q (F0 m 15 ls []) := by
            intro n
            induction n with
            | zero =>
              intro P x1 x2 x3 x4  H locs ls r h
              exact absurd (h.symm.trans (m_X1_solve_L15_0 ..)) (by simp)
            | succ n ih =>
              intro P x1 x2 x3 x4  H locs ls r h hW hl kk
              rw [m_X1_solve_L15_s] at h
              refine lv_iload hx hb dX1_solve_15 (lv_at hl 4 rfl) ?_
              refine lv_iload_n hx hb dX1_solve_17 rfl (lv_at hl 2 rfl) ?_
              refine lv_icmp_gt (tgt := 40) hx hb dX1_solve_18 (by decide) (fun c7 => ?_) (fun c7 => ?_)
              · replace h := ite_t h c7
                obtain rfl := Option.some.inj h
                exact kk _ _ _ hW (lv_sub hl [0, 1, 2, 3] rfl)
              · replace h := ite_f h c7
                refine lv_iload hx hb dX1_solve_21 (lv_at hl 4 rfl) ?_
                refine lv_iconst (v := 3) hx hb dX1_solve_23 (by decide) ?_
                refine lv_icmp_ge (tgt := 40) hx hb dX1_solve_24 (by decide) (fun c8 => ?_) (fun c8 => ?_)
                · replace h := ite_t h c8
                  obtain rfl := Option.some.inj h
                  exact kk _ _ _ hW (lv_sub hl [0, 1, 2, 3] rfl)
                · replace h := ite_f h c8
                  refine lv_aload_n hx hb dX1_solve_27 rfl (lv_at hl 0 rfl) ?_
                  refine lv_iload_n hx hb dX1_solve_28 rfl (lv_at hl 3 rfl) ?_
                  refine lv_iload hx hb dX1_solve_29 (lv_at hl 4 rfl) ?_
                  obtain ⟨r9, hr10, h⟩ := bd_of h
                  refine wd_callV0 (As := [.int x3, .int x4]) hC hW 59 wP_c81 rfl (c_X1_fillField l D cy ad X n S P x3 x4 r9 hr10) (cwV 2 hts (gu_V w_45_4 w_45_1 w_45_2 w_45_3 w_43_2) rfl rfl rfl hdX1_fillField ⟨Nat.le_of_ble_eq_true rfl, Nat.le_of_ble_eq_true rfl⟩) rfl hl.1 rfl (Nat.le_of_ble_eq_true rfl) ⟨Nat.zero_le _, Nat.zero_le _⟩ dX1_solve_31 (fun H locs hW => ?_)
                  refine lv_iinc (v := x4 + 1) (lv' := [(4, .int (x4 + 1)), (0, .ref (ad 81)), (1, .int x1), (2, .int x2), (3, .int x3)]) hx hb dX1_solve_34 hl (k := 4) rfl rfl (by decide) rfl (fun ls hl => ?_)
                  refine lv_goto (tgt := 15) hx hb dX1_solve_37 (by decide) ?_
                  exact ih r9 x1 x2 x3 (x4 + 1) _ _ _ r h hW (lv_sub hl [1, 2, 3, 4, 0] rfl) kk
          obtain ⟨q5, hq6, h⟩ := bd_of h
          refine hL15 n P x1 x2 x3 0  _ _ _ q5 hq6 hW (lv_sub hl [1, 2, 3, 4, 0] rfl) (fun H locs ls hW hl => ?_)
          refine lv_iinc (v := x3 + 1) (lv' := [(3, .int (x3 + 1)), (0, .ref (ad 81)), (1, .int x1), (2, .int x2)]) hx hb dX1_solve_40 hl (k := 3) rfl rfl (by decide) rfl (fun ls hl => ?_)
          refine lv_goto (tgt := 2) hx hb dX1_solve_43 (by decide) ?_
          exact ih q5 x1 x2 (x3 + 1) _ _ _ r h hW (lv_sub hl [1, 2, 3, 0] rfl) kk
  obtain ⟨q1, hq2, h⟩ := bd_of h
  refine hL2 n P p0 p1 0  _ _ _ q1 hq2 hW (lv_sub hl [1, 2, 3, 0] rfl) (fun H locs ls hW hl => ?_)
  refine lv_aload_n hx hb dX1_solve_46 rfl (lv_at hl 0 rfl) ?_
  refine lv_iload_n hx hb dX1_solve_47 rfl (lv_at hl 1 rfl) ?_
  refine lv_iload_n hx hb dX1_solve_48 rfl (lv_at hl 2 rfl) ?_
  obtain ⟨r11, hr12, h⟩ := bd_of h
  refine wd_callV1 (As := [.int p0, .int p1]) hC hW 59 wP_c81 rfl (c_X1_valueAt l D cy ad X S q1 p0 p1 r11 hr12) (cwV 2 hts (gu_V w_45_21 w_45_18 w_45_19 w_45_20 w_43_2) rfl rfl rfl hdX1_valueAt ⟨Nat.le_of_ble_eq_true rfl, Nat.le_of_ble_eq_true rfl⟩) rfl hl.1 rfl (Nat.le_of_ble_eq_true rfl) ⟨Nat.zero_le _, Nat.zero_le _⟩ dX1_solve_49 (fun H locs hW => ?_)
  obtain rfl := Option.some.inj h
  exact wd_iret hA hQ hC hr hk hW dX1_solve_52
def m_X1_chosen_L77 : Nat → St → St → Int32 → Int32 → Int32 → Int32 → Option (Int32)
  | 0, _, _, _, _, _, _ => none
  | n + 1, S, P, x3, x4, x5, x6 =>
    if 40 < x6 then (some 0) else (((if x4 = 0 then (some (((P.1 72) * 41) + x6)) else (some ((x6 * 41) + (P.1 73))) : Option (Int32))).bind (fun q16 => ck (x5 + q16) 15129 (if (P.2.1 88 (x5 + q16).toNatClampNeg) = x3 then (some x6) else (m_X1_chosen_L77 n S P x3 x4 x5 (x6 + 1)))))
theorem m_X1_chosen_L77_0 (S : St) (P : St) (x3 : Int32) (x4 : Int32) (x5 : Int32) (x6 : Int32) : m_X1_chosen_L77 0 S P x3 x4 x5 x6 = none := rfl
theorem m_X1_chosen_L77_s {n : Nat} {S : St} {P : St} {x3 : Int32} {x4 : Int32} {x5 : Int32} {x6 : Int32} : m_X1_chosen_L77 (n + 1) S P x3 x4 x5 x6 =
    (if 40 < x6 then (some 0) else (((if x4 = 0 then (some (((P.1 72) * 41) + x6)) else (some ((x6 * 41) + (P.1 73))) : Option (Int32))).bind (fun q16 => ck (x5 + q16) 15129 (if (P.2.1 88 (x5 + q16).toNatClampNeg) = x3 then (some x6) else (m_X1_chosen_L77 n S P x3 x4 x5 (x6 + 1)))))) := rfl
def m_X1_chosen (n : Nat) (S : St) (P : St) (p0 : Int32) (p1 : Int32) : Option (Int32) :=
  (m_X1_valueAt S P p0 p1).bind (fun r1 => (m_X1_valueOfTry S P (P.1 72) (P.1 73) p0 p1).bind (fun r3 => if r1 = r3 then (some 0) else ((m_X1_firstCalled S P).bind (fun r6 => ((if r6 = 0 then ((m_X1_fieldOf S P p0 (p1 - 1)).bind (fun r20 => some r20)) else ((m_X1_fieldOf S P (p0 - 1) p1).bind (fun r22 => some r22)) : Option (Int32))).bind (fun q9 => ((if r6 = 0 then (some (P.1 73)) else (some (P.1 72)) : Option (Int32))).bind (fun q12 => m_X1_chosen_L77 n S P r1 r6 q9 (q12 + 1)))))))
set_option maxHeartbeats 4000000 in
set_option maxRecDepth 100000 in
theorem c_X1_chosen (l : Launch) (D : va_G) (cy : Nat → ClassId) (ad : Nat → Nat) (X : va_W) (n : Nat) (S : St) (P : St) (p0 : Int32) (p1 : Int32) (r : (Int32)) (h : m_X1_chosen n S P p0 p1 = some r) : CT l yX1_chosen (wu yX1_chosen cX1_chosen 8 (some .int)) 2 D cy [.ref (ad 81), .int p0, .int p1] (wC ad cy S ++ (wP ad cy P ++ X)) (some (.int r)) (wC ad cy S ++ (wP ad cy P ++ X)) := by
  refine CT.mk (cc := cX1_chosen) (maxL := 8) (ret := (some .int)) (own := RX1) (by decide) rfl rfl (Nat.le_of_ble_eq_true rfl) ?_
  intro p e s m args below meth c ls A Q hA hQ hC hr hk hW hl
  have hx := hC.1
  have hb := hC.2.1
  have hown := hC.2.2.2.1
  have hts := hC.2.2.2.2
  have hl : lv_has ls 8 [(0, .ref (ad 81)), (1, .int p0), (2, .int p1)] := hl
  have f18 := hts _ (wu_in w_43_8)
  have i1 := (fun w h => wu_in (inc_1 w h) : ∀ w ∈ u_ws RX1 TX1 16, w ∈ (wu yX1_chosen cX1_chosen 8 (some .int)))
  have f22 := hts _ (wu_in w_43_9)
  have f56 := hts _ (wu_in w_43_20)
  unfold m_X1_chosen at h
  refine lv_aload_n hx hb dX1_chosen_0 rfl (lv_at hl 0 rfl) ?_
  refine lv_iload_n hx hb dX1_chosen_1 rfl (lv_at hl 1 rfl) ?_
  refine lv_iload_n hx hb dX1_chosen_2 rfl (lv_at hl 2 rfl) ?_
  obtain ⟨r1, hr2, h⟩ := bd_of h
  refine wd_callV1 (As := [.int p0, .int p1]) hC hW 59 wP_c81 rfl (c_X1_valueAt l D cy ad X S P p0 p1 r1 hr2) (cwV 2 hts (gu_V w_45_21 w_45_18 w_45_19 w_45_20 w_43_2) rfl rfl rfl hdX1_valueAt ⟨Nat.le_of_ble_eq_true rfl, Nat.le_of_ble_eq_true rfl⟩) rfl hl.1 rfl (Nat.le_of_ble_eq_true rfl) ⟨Nat.zero_le _, Nat.zero_le _⟩ dX1_chosen_3 (fun H locs hW => ?_)
  refine lv_istore_n (lv' := [(3, .int r1), (0, .ref (ad 81)), (1, .int p0), (2, .int p1)]) hx hb dX1_chosen_6 rfl hl (by decide) rfl (fun ls hl => ?_)
  refine lv_iload_n hx hb dX1_chosen_7 rfl (lv_at hl 0 rfl) ?_
  refine lv_aload_n hx hb dX1_chosen_8 rfl (lv_at hl 1 rfl) ?_
  refine lv_aload_n hx hb dX1_chosen_9 rfl (lv_at hl 1 rfl) ?_
  refine wd_get hC i1 hW 59 wP_c81 rfl 2 (Nat.le_of_ble_eq_true rfl) f18 rfl rfl dX1_chosen_10 ?_
  refine lv_aload_n hx hb dX1_chosen_13 rfl (lv_at hl 1 rfl) ?_
  refine wd_get hC i1 hW 59 wP_c81 rfl 3 (Nat.le_of_ble_eq_true rfl) f22 rfl rfl dX1_chosen_14 ?_
  refine lv_iload_n hx hb dX1_chosen_17 rfl (lv_at hl 2 rfl) ?_
  refine lv_iload_n hx hb dX1_chosen_18 rfl (lv_at hl 3 rfl) ?_
  obtain ⟨r3, hr4, h⟩ := bd_of h
  refine wd_callV1 (As := [.int (P.1 72), .int (P.1 73), .int p0, .int p1]) hC hW 59 wP_c81 rfl (c_X1_valueOfTry l D cy ad X S P (P.1 72) (P.1 73) p0 p1 r3 hr4) (cwV 4 hts (gu_V w_45_13 w_45_10 w_45_11 w_45_12 w_43_2) rfl rfl rfl hdX1_valueOfTry ⟨Nat.le_of_ble_eq_true rfl, Nat.le_of_ble_eq_true rfl⟩) rfl hl.1 rfl (Nat.le_of_ble_eq_true rfl) ⟨Nat.zero_le _, Nat.zero_le _⟩ dX1_chosen_19 (fun H locs hW => ?_)
  refine lv_icmp_ne (tgt := 27) hx hb dX1_chosen_22 (by decide) (fun c5 => ?_) (fun c5 => ?_)
  · replace h := ite_f h c5
    refine lv_aload_n hx hb dX1_chosen_27 rfl (lv_at hl 1 rfl) ?_
    obtain ⟨r6, hr7, h⟩ := bd_of h
    refine wd_callV1 (As := []) hC hW 59 wP_c81 rfl (c_X1_firstCalled l D cy ad X S P r6 hr7) (cwV 0 hts (gu_V w_46_1 w_46_6 w_45_23 w_46_0 w_43_2) rfl rfl rfl hdX1_firstCalled ⟨Nat.le_of_ble_eq_true rfl, Nat.le_of_ble_eq_true rfl⟩) rfl hl.1 rfl (Nat.le_of_ble_eq_true rfl) ⟨Nat.zero_le _, Nat.zero_le _⟩ dX1_chosen_28 (fun H locs hW => ?_)
    refine lv_istore (lv' := [(4, .int r6), (3, .int r1), (0, .ref (ad 81)), (1, .int p0), (2, .int p1)]) hx hb dX1_chosen_31 hl (by decide) rfl (fun ls hl => ?_)
    refine lv_iload hx hb dX1_chosen_33 (lv_at hl 0 rfl) ?_
    obtain ⟨q9, hq10, h⟩ := bd_of h
    have hJ55 : ∀ (H : Heap) (locs : List Loc) (ls : Array Slot), Wd D cy A s (wC ad cy S ++ (wP ad cy P ++ X)) H locs → lv_has ls 8 [(4, .int r6), (3, .int r1), (0, .ref (ad 81)), (1, .int p0), (2, .int p1)] → W p l e (RM 2) s m args below meth c H locs 0 0 Q (F0 m 55 ls [.int q9]) := by
      intro H locs ls hW hl
      refine lv_istore (lv' := [(5, .int q9), (4, .int r6), (3, .int r1), (0, .ref (ad 81)), (1, .int p0), (2, .int p1)]) hx hb dX1_chosen_55 hl (by decide) rfl (fun ls hl => ?_)
      refine lv_iload hx hb dX1_chosen_57 (lv_at hl 1 rfl) ?_
      obtain ⟨q12, hq13, h⟩ := bd_of h
      have hJ73 : ∀ (H : Heap) (locs : List Loc) (ls : Array Slot), Wd D cy A s (wC ad cy S ++ (wP ad cy P ++ X)) H locs → lv_has ls 8 [(5, .int q9), (4, .int r6), (3, .int r1), (0, .ref (ad 81)), (1, .int p0), (2, .int p1)] → W p l e (RM 2) s m args below meth c H locs 0 0 Q (F0 m 73 ls [.int q12]) := by
        intro H locs ls hW hl
        refine lv_iconst (v := 1) hx hb dX1_chosen_73 (by decide) ?_
        refine lv_iadd hx hb dX1_chosen_74 ?_
        refine lv_istore (lv' := [(6, .int (q12 + 1)), (5, .int q9), (4, .int r6), (3, .int r1), (0, .ref (ad 81)), (1, .int p0), (2, .int p1)]) hx hb dX1_chosen_75 hl (by decide) rfl (fun ls hl => ?_)
        have hL77 : ∀ (n : Nat) (x3 : Int32) (x4 : Int32) (x5 : Int32) (x6 : Int32)  (H : Heap) (locs : List Loc) (ls : Array Slot), m_X1_chosen_L77 n S P x3 x4 x5 x6 = some r → Wd D cy A s (wC ad cy S ++ (wP ad cy P ++ X)) H locs → lv_has ls 8 [(0, .ref (ad 81)), (3, .int x3), (4, .int x4), (5, .int x5), (6, .int x6)] → W p l e (RM 2) s m args below meth c H locs 0 0 Q (F0 m 77 ls []) := by
          intro n
          induction n with
          | zero =>
            intro x3 x4 x5 x6  H locs ls h
            exact absurd (h.symm.trans (m_X1_chosen_L77_0 ..)) (by simp)
          | succ n ih =>
            intro x3 x4 x5 x6  H locs ls h hW hl
            rw [m_X1_chosen_L77_s] at h
            refine lv_iload hx hb dX1_chosen_77 (lv_at hl 4 rfl) ?_
            refine lv_bipush (v := 40) hx hb dX1_chosen_79 (by decide) ?_
            refine lv_icmp_gt (tgt := 137) hx hb dX1_chosen_81 (by decide) (fun c14 => ?_) (fun c14 => ?_)
            · replace h := ite_t h c14
              refine lv_iconst (v := 0) hx hb dX1_chosen_137 (by decide) ?_
              obtain rfl := Option.some.inj h
              exact wd_iret hA hQ hC hr hk hW dX1_chosen_138
            · replace h := ite_f h c14
              refine lv_iload hx hb dX1_chosen_84 (lv_at hl 2 rfl) ?_
              obtain ⟨q16, hq17, h⟩ := bd_of h
              have hJ112 : ∀ (H : Heap) (locs : List Loc) (ls : Array Slot), Wd D cy A s (wC ad cy S ++ (wP ad cy P ++ X)) H locs → lv_has ls 8 [(0, .ref (ad 81)), (3, .int x3), (4, .int x4), (5, .int x5), (6, .int x6)] → W p l e (RM 2) s m args below meth c H locs 0 0 Q (F0 m 112 ls [.int q16]) := by
                intro H locs ls hW hl
                refine lv_istore (lv' := [(7, .int q16), (0, .ref (ad 81)), (3, .int x3), (4, .int x4), (5, .int x5), (6, .int x6)]) hx hb dX1_chosen_112 hl (by decide) rfl (fun ls hl => ?_)
                refine lv_aload_n hx hb dX1_chosen_114 rfl (lv_at hl 1 rfl) ?_
                refine wd_get hC i1 hW 59 wP_c81 rfl 14 (Nat.le_of_ble_eq_true rfl) f56 rfl rfl dX1_chosen_115 ?_
                refine lv_iload hx hb dX1_chosen_118 (lv_at hl 4 rfl) ?_
                refine lv_iload hx hb dX1_chosen_120 (lv_at hl 0 rfl) ?_
                refine lv_iadd hx hb dX1_chosen_122 ?_
                obtain ⟨hi18, h⟩ := ck_of h
                refine wd_iald hC hW 66 wP_c88 hi18 dX1_chosen_123 ?_
                refine lv_iload_n hx hb dX1_chosen_124 rfl (lv_at hl 2 rfl) ?_
                refine lv_icmp_ne (tgt := 131) hx hb dX1_chosen_125 (by decide) (fun c19 => ?_) (fun c19 => ?_)
                · replace h := ite_f h c19
                  refine lv_iinc (v := x6 + 1) (lv' := [(6, .int (x6 + 1)), (7, .int q16), (0, .ref (ad 81)), (3, .int x3), (4, .int x4), (5, .int x5)]) hx hb dX1_chosen_131 hl (k := 5) rfl rfl (by decide) rfl (fun ls hl => ?_)
                  refine lv_goto (tgt := 77) hx hb dX1_chosen_134 (by decide) ?_
                  exact ih x3 x4 x5 (x6 + 1) _ _ _ h hW (lv_sub hl [2, 3, 4, 5, 0] rfl)
                · replace h := ite_t h c19
                  refine lv_iload hx hb dX1_chosen_128 (lv_at hl 5 rfl) ?_
                  obtain rfl := Option.some.inj h
                  exact wd_iret hA hQ hC hr hk hW dX1_chosen_130
              replace h := hq17
              refine lv_if_eq (tgt := 102) hx hb dX1_chosen_86 (by decide) (fun c15 => ?_) (fun c15 => ?_)
              · replace h := ite_t h c15
                refine lv_aload_n hx hb dX1_chosen_102 rfl (lv_at hl 0 rfl) ?_
                refine wd_get hC i1 hW 59 wP_c81 rfl 2 (Nat.le_of_ble_eq_true rfl) f18 rfl rfl dX1_chosen_103 ?_
                refine lv_bipush (v := 41) hx hb dX1_chosen_106 (by decide) ?_
                refine lv_imul hx hb dX1_chosen_108 ?_
                refine lv_iload hx hb dX1_chosen_109 (lv_at hl 4 rfl) ?_
                refine lv_iadd hx hb dX1_chosen_111 ?_
                obtain rfl := Option.some.inj h
                exact hJ112 _ _ _ hW (lv_sub hl [0, 1, 2, 3, 4] rfl)
              · replace h := ite_f h c15
                refine lv_iload hx hb dX1_chosen_89 (lv_at hl 4 rfl) ?_
                refine lv_bipush (v := 41) hx hb dX1_chosen_91 (by decide) ?_
                refine lv_imul hx hb dX1_chosen_93 ?_
                refine lv_aload_n hx hb dX1_chosen_94 rfl (lv_at hl 0 rfl) ?_
                refine wd_get hC i1 hW 59 wP_c81 rfl 3 (Nat.le_of_ble_eq_true rfl) f22 rfl rfl dX1_chosen_95 ?_
                refine lv_iadd hx hb dX1_chosen_98 ?_
                refine lv_goto (tgt := 112) hx hb dX1_chosen_99 (by decide) ?_
                obtain rfl := Option.some.inj h
                exact hJ112 _ _ _ hW (lv_sub hl [0, 1, 2, 3, 4] rfl)
        exact hL77 n r1 r6 q9 (q12 + 1)  _ _ _ h hW (lv_sub hl [4, 3, 2, 1, 0] rfl)
      replace h := hq13
      refine lv_if_eq (tgt := 69) hx hb dX1_chosen_59 (by decide) (fun c11 => ?_) (fun c11 => ?_)
      · replace h := ite_t h c11
        refine lv_aload_n hx hb dX1_chosen_69 rfl (lv_at hl 3 rfl) ?_
        refine wd_get hC i1 hW 59 wP_c81 rfl 3 (Nat.le_of_ble_eq_true rfl) f22 rfl rfl dX1_chosen_70 ?_
        obtain rfl := Option.some.inj h
        exact hJ73 _ _ _ hW (lv_sub hl [0, 1, 2, 3, 4, 5] rfl)
      · replace h := ite_f h c11
        refine lv_aload_n hx hb dX1_chosen_62 rfl (lv_at hl 3 rfl) ?_
        refine wd_get hC i1 hW 59 wP_c81 rfl 2 (Nat.le_of_ble_eq_true rfl) f18 rfl rfl dX1_chosen_63 ?_
        refine lv_goto (tgt := 73) hx hb dX1_chosen_66 (by decide) ?_
        obtain rfl := Option.some.inj h
        exact hJ73 _ _ _ hW (lv_sub hl [0, 1, 2, 3, 4, 5] rfl)
    replace h := hq10
    refine lv_if_eq (tgt := 48) hx hb dX1_chosen_35 (by decide) (fun c8 => ?_) (fun c8 => ?_)
    · replace h := ite_t h c8
      refine lv_iload_n hx hb dX1_chosen_48 rfl (lv_at hl 3 rfl) ?_
      refine lv_iload_n hx hb dX1_chosen_49 rfl (lv_at hl 4 rfl) ?_
      refine lv_iconst (v := 1) hx hb dX1_chosen_50 (by decide) ?_
      refine lv_isub hx hb dX1_chosen_51 ?_
      obtain ⟨r20, hr21, h⟩ := bd_of h
      refine wd_callS1 (As := [.int p0, .int (p1 - 1)]) hC hW (c_X1_fieldOf l D cy ad X S P p0 (p1 - 1) r20 hr21) (va_cwS 2 hts (gu_S w_45_8 w_45_6 w_45_7 w_43_2) rfl rfl rfl hdX1_fieldOf ⟨Nat.le_of_ble_eq_true rfl, Nat.le_of_ble_eq_true rfl⟩) rfl hl.1 rfl (Nat.le_of_ble_eq_true rfl) ⟨Nat.zero_le _, Nat.zero_le _⟩ dX1_chosen_52 (fun H locs hW => ?_)
      obtain rfl := Option.some.inj h
      exact hJ55 _ _ _ hW (lv_sub hl [0, 1, 2, 3, 4] rfl)
    · replace h := ite_f h c8
      refine lv_iload_n hx hb dX1_chosen_38 rfl (lv_at hl 3 rfl) ?_
      refine lv_iconst (v := 1) hx hb dX1_chosen_39 (by decide) ?_
      refine lv_isub hx hb dX1_chosen_40 ?_
      refine lv_iload_n hx hb dX1_chosen_41 rfl (lv_at hl 4 rfl) ?_
      obtain ⟨r22, hr23, h⟩ := bd_of h
      refine wd_callS1 (As := [.int (p0 - 1), .int p1]) hC hW (c_X1_fieldOf l D cy ad X S P (p0 - 1) p1 r22 hr23) (va_cwS 2 hts (gu_S w_45_8 w_45_6 w_45_7 w_43_2) rfl rfl rfl hdX1_fieldOf ⟨Nat.le_of_ble_eq_true rfl, Nat.le_of_ble_eq_true rfl⟩) rfl hl.1 rfl (Nat.le_of_ble_eq_true rfl) ⟨Nat.zero_le _, Nat.zero_le _⟩ dX1_chosen_42 (fun H locs hW => ?_)
      refine lv_goto (tgt := 55) hx hb dX1_chosen_45 (by decide) ?_
      obtain rfl := Option.some.inj h
      exact hJ55 _ _ _ hW (lv_sub hl [0, 1, 2, 3, 4] rfl)
  · replace h := ite_t h c5
    refine lv_iconst (v := 0) hx hb dX1_chosen_25 (by decide) ?_
    obtain rfl := Option.some.inj h
    exact wd_iret hA hQ hC hr hk hW dX1_chosen_26
def m_X1_meetUp_L182 : Nat → St → St → Int32 → Int32 → Int32 → Option (St)
  | 0, _, _, _, _, _ => none
  | n + 1, S, P, x2, x3, x6 =>
    if 40 < x6 then (some P) else (ck x2 7 (ck x2 6 ((m_X3_oddsOf S x2.toNatClampNeg 2 x6 ((S.2.1 31 x2.toNatClampNeg) * (S.1 31))).bind (fun r47 => ck x6 41 (nm (sA P 82 x6.toNatClampNeg r47) (fun P50 => ck x3 7 (ck x3 6 ((m_X3_oddsOf S x3.toNatClampNeg 2 x6 ((S.2.1 31 x3.toNatClampNeg) * (S.1 31))).bind (fun r54 => ck x6 41 (nm (sA P50 83 x6.toNatClampNeg r54) (fun P57 => m_X1_meetUp_L182 n S P57 x2 x3 (x6 + 1))))))))))))
theorem m_X1_meetUp_L182_0 (S : St) (P : St) (x2 : Int32) (x3 : Int32) (x6 : Int32) : m_X1_meetUp_L182 0 S P x2 x3 x6 = none := rfl
theorem m_X1_meetUp_L182_s {n : Nat} {S : St} {P : St} {x2 : Int32} {x3 : Int32} {x6 : Int32} : m_X1_meetUp_L182 (n + 1) S P x2 x3 x6 =
    (if 40 < x6 then (some P) else (ck x2 7 (ck x2 6 ((m_X3_oddsOf S x2.toNatClampNeg 2 x6 ((S.2.1 31 x2.toNatClampNeg) * (S.1 31))).bind (fun r47 => ck x6 41 (nm (sA P 82 x6.toNatClampNeg r47) (fun P50 => ck x3 7 (ck x3 6 ((m_X3_oddsOf S x3.toNatClampNeg 2 x6 ((S.2.1 31 x3.toNatClampNeg) * (S.1 31))).bind (fun r54 => ck x6 41 (nm (sA P50 83 x6.toNatClampNeg r54) (fun P57 => m_X1_meetUp_L182 n S P57 x2 x3 (x6 + 1))))))))))))) := rfl
def m_X1_meetUp (n : Nat) (S : St) (P : St) (p1 : Int32) (p2 : Int32) : Option (St) :=
  ck p1 7 (ck p2 7 ((m_X3_leadsLike S p1.toNatClampNeg p2.toNatClampNeg).bind (fun r3 => ckb r3 (nm (sI P 70 r3) (fun P6 => ck p1 7 (ck p2 7 (((if (S.1 (11 + 2 * p2.toNatClampNeg)) ≤ (S.1 (11 + 2 * p1.toNatClampNeg)) then (some 0) else (some 1) : Option (Int32))).bind (fun q11 => ckb q11 (nm (sI P6 71 q11) (fun P14 => ck p1 6 (nm (sI P14 72 (S.2.1 26 p1.toNatClampNeg)) (fun P17 => ck p2 6 (nm (sI P17 73 (S.2.1 26 p2.toNatClampNeg)) (fun P20 => ck (p1 * 3) 18 (ck ((p1 * 3) + 1) 18 (nm (sI P20 74 ((S.2.1 30 (p1 * 3).toNatClampNeg) + (S.2.1 30 ((p1 * 3) + 1).toNatClampNeg))) (fun P24 => ck (p2 * 3) 18 (ck ((p2 * 3) + 1) 18 (nm (sI P24 75 ((S.2.1 30 (p2 * 3).toNatClampNeg) + (S.2.1 30 ((p2 * 3) + 1).toNatClampNeg))) (fun P28 => ck ((p1 * 3) + 2) 18 (ck ((p2 * 3) + 2) 18 (((if (S.2.1 30 ((p1 * 3) + 2).toNatClampNeg) = 0 then (some 0) else (some ((P28.1 74) + (S.2.1 30 ((p1 * 3) + 2).toNatClampNeg))) : Option (Int32))).bind (fun q33 => nm (sI P28 76 q33) (fun P35 => ((if (S.2.1 30 ((p2 * 3) + 2).toNatClampNeg) = 0 then (some 0) else (some ((P35.1 75) + (S.2.1 30 ((p2 * 3) + 2).toNatClampNeg))) : Option (Int32))).bind (fun q38 => nm (sI P35 77 q38) (fun P40 => (m_X1_meetUp_L182 n S P40 p1 p2 1).bind (fun q42 => (m_X1_fillSecond n S q42).bind (fun r59 => some r59))))))))))))))))))))))))))))
set_option maxHeartbeats 4000000 in
set_option maxRecDepth 100000 in
theorem c_X1_meetUp (l : Launch) (D : va_G) (cy : Nat → ClassId) (ad : Nat → Nat) (X : va_W) (n : Nat) (S : St) (P : St) (p1 : Int32) (p2 : Int32) (r : (St)) (h : m_X1_meetUp n S P p1 p2 = some r) : CT l yX1_meetUp (wu yX1_meetUp cX1_meetUp 7 none) 2 D cy [.ref (ad 81), .ref (ad 25), .int p1, .int p2] (wC ad cy S ++ (wP ad cy P ++ X)) (none) (wC ad cy S ++ (wP ad cy r ++ X)) := by
  refine CT.mk (cc := cX1_meetUp) (maxL := 7) (ret := none) (own := RX1) (by decide) rfl rfl (Nat.le_of_ble_eq_true rfl) ?_
  intro p e s m args below meth c ls A Q hA hQ hC hr hk hW hl
  have hx := hC.1
  have hb := hC.2.1
  have hown := hC.2.2.2.1
  have hts := hC.2.2.2.2
  have hl : lv_has ls 7 [(0, .ref (ad 81)), (1, .ref (ad 25)), (2, .int p1), (3, .int p2)] := hl
  have f62 := hts _ (wu_in w_44_2)
  have i4 := (fun w h => wu_in (inc_4 w h) : ∀ w ∈ u_ws RX4 TX4 16, w ∈ (wu yX1_meetUp cX1_meetUp 7 none))
  have f11 := hts _ (wu_in w_43_6)
  have i1 := (fun w h => wu_in (inc_1 w h) : ∀ w ∈ u_ws RX1 TX1 16, w ∈ (wu yX1_meetUp cX1_meetUp 7 none))
  have f73 := hts _ (wu_in w_44_3)
  have i3 := (fun w h => wu_in (inc_3 w h) : ∀ w ∈ u_ws RX3 TX3 4, w ∈ (wu yX1_meetUp cX1_meetUp 7 none))
  have f15 := hts _ (wu_in w_43_7)
  have f76 := hts _ (wu_in w_44_4)
  have f18 := hts _ (wu_in w_43_8)
  have f22 := hts _ (wu_in w_43_9)
  have f79 := hts _ (wu_in w_44_5)
  have f25 := hts _ (wu_in w_43_10)
  have f28 := hts _ (wu_in w_43_11)
  have f31 := hts _ (wu_in w_43_12)
  have f34 := hts _ (wu_in w_43_13)
  have f37 := hts _ (wu_in w_43_14)
  have f82 := hts _ (wu_in w_44_6)
  have f85 := hts _ (wu_in w_44_7)
  have f41 := hts _ (wu_in w_43_15)
  unfold m_X1_meetUp at h
  refine lv_aload_n hx hb dX1_meetUp_0 rfl (lv_at hl 0 rfl) ?_
  refine lv_aload_n hx hb dX1_meetUp_1 rfl (lv_at hl 1 rfl) ?_
  refine wd_get hC i4 hW 25 wC_c25 rfl 0 (Nat.le_of_ble_eq_true rfl) f62 rfl rfl dX1_meetUp_2 ?_
  refine lv_iload_n hx hb dX1_meetUp_5 rfl (lv_at hl 2 rfl) ?_
  obtain ⟨hi1, h⟩ := ck_of h
  refine wd_aldq hC hW 3 wC_c3 hi1 rfl dX1_meetUp_6 ?_
  refine lv_aload_n hx hb dX1_meetUp_7 rfl (lv_at hl 1 rfl) ?_
  refine wd_get hC i4 hW 25 wC_c25 rfl 0 (Nat.le_of_ble_eq_true rfl) f62 rfl rfl dX1_meetUp_8 ?_
  refine lv_iload_n hx hb dX1_meetUp_11 rfl (lv_at hl 3 rfl) ?_
  obtain ⟨hi2, h⟩ := ck_of h
  refine wd_aldq hC hW 3 wC_c3 hi2 rfl dX1_meetUp_12 ?_
  obtain ⟨r3, hr4, h⟩ := bd_of h
  refine wd_callV1 (As := [.ref (ad (4 + 3 * p2.toNatClampNeg))]) hC hW (4 + 3 * p1.toNatClampNeg) (wC_L (in_lt hi1)) rfl (c_X3_leadsLike l D cy ad (wP ad cy P ++ X) S p1.toNatClampNeg p2.toNatClampNeg r3 hr4 (in_lt hi1) (in_lt hi2)) (cwV 1 hts (gu_V w_23_9 w_44_8 w_23_7 w_23_8 w_1_20) rfl rfl rfl hdX3_leadsLike ⟨Nat.le_of_ble_eq_true rfl, Nat.le_of_ble_eq_true rfl⟩) rfl hl.1 rfl (Nat.le_of_ble_eq_true rfl) ⟨Nat.zero_le _, Nat.zero_le _⟩ dX1_meetUp_13 (fun H locs hW => ?_)
  obtain ⟨hb5, h⟩ := ckb_of h
  refine wd_put hC i1 tyX1_ok nmX1 hW 59 wP_c81 rfl 0 (Nat.le_of_ble_eq_true rfl) f11 rfl rfl (ckb_nar hb5) (ckb_fit hb5) (Nat.le_of_ble_eq_true rfl) wP_s81_0 dX1_meetUp_16 (fun H locs hW => ?_)
  obtain ⟨P6, e7, h⟩ := nm_of h
  replace hW := wq_P e7 hW
  refine lv_aload_n hx hb dX1_meetUp_19 rfl (lv_at hl 0 rfl) ?_
  refine lv_aload_n hx hb dX1_meetUp_20 rfl (lv_at hl 1 rfl) ?_
  refine wd_get hC i4 hW 25 wC_c25 rfl 0 (Nat.le_of_ble_eq_true rfl) f62 rfl rfl dX1_meetUp_21 ?_
  refine lv_iload_n hx hb dX1_meetUp_24 rfl (lv_at hl 2 rfl) ?_
  obtain ⟨hi8, h⟩ := ck_of h
  refine wd_aldq hC hW 3 wC_c3 hi8 rfl dX1_meetUp_25 ?_
  refine wd_get hC i3 hW (4 + 3 * p1.toNatClampNeg) (wC_L (in_lt hi8)) rfl 1 (Nat.le_of_ble_eq_true rfl) f73 rfl rfl dX1_meetUp_26 ?_
  refine lv_aload_n hx hb dX1_meetUp_29 rfl (lv_at hl 1 rfl) ?_
  refine wd_get hC i4 hW 25 wC_c25 rfl 0 (Nat.le_of_ble_eq_true rfl) f62 rfl rfl dX1_meetUp_30 ?_
  refine lv_iload_n hx hb dX1_meetUp_33 rfl (lv_at hl 3 rfl) ?_
  obtain ⟨hi9, h⟩ := ck_of h
  refine wd_aldq hC hW 3 wC_c3 hi9 rfl dX1_meetUp_34 ?_
  refine wd_get hC i3 hW (4 + 3 * p2.toNatClampNeg) (wC_L (in_lt hi9)) rfl 1 (Nat.le_of_ble_eq_true rfl) f73 rfl rfl dX1_meetUp_35 ?_
  obtain ⟨q11, hq12, h⟩ := bd_of h
  have hJ46 : ∀ (H : Heap) (locs : List Loc) (ls : Array Slot), Wd D cy A s (wC ad cy S ++ (wP ad cy P6 ++ X)) H locs → lv_has ls 7 [(0, .ref (ad 81)), (1, .ref (ad 25)), (2, .int p1), (3, .int p2)] → W p l e (RM 2) s m args below meth c H locs 0 0 Q (F0 m 46 ls [.int q11, .ref (ad 81)]) := by
    intro H locs ls hW hl
    obtain ⟨hb13, h⟩ := ckb_of h
    refine wd_put hC i1 tyX1_ok nmX1 hW 59 wP_c81 rfl 1 (Nat.le_of_ble_eq_true rfl) f15 rfl rfl (ckb_nar hb13) (ckb_fit hb13) (Nat.le_of_ble_eq_true rfl) wP_s81_1 dX1_meetUp_46 (fun H locs hW => ?_)
    obtain ⟨P14, e15, h⟩ := nm_of h
    replace hW := wq_P e15 hW
    refine lv_aload_n hx hb dX1_meetUp_49 rfl (lv_at hl 0 rfl) ?_
    refine lv_aload_n hx hb dX1_meetUp_50 rfl (lv_at hl 1 rfl) ?_
    refine wd_get hC i4 hW 25 wC_c25 rfl 6 (Nat.le_of_ble_eq_true rfl) f76 rfl rfl dX1_meetUp_51 ?_
    refine lv_iload_n hx hb dX1_meetUp_54 rfl (lv_at hl 2 rfl) ?_
    obtain ⟨hi16, h⟩ := ck_of h
    refine wd_iald hC hW 26 wC_c26 hi16 dX1_meetUp_55 ?_
    refine wd_put hC i1 tyX1_ok nmX1 hW 59 wP_c81 rfl 2 (Nat.le_of_ble_eq_true rfl) f18 rfl rfl rfl rfl (Nat.le_of_ble_eq_true rfl) wP_s81_2 dX1_meetUp_56 (fun H locs hW => ?_)
    obtain ⟨P17, e18, h⟩ := nm_of h
    replace hW := wq_P e18 hW
    refine lv_aload_n hx hb dX1_meetUp_59 rfl (lv_at hl 0 rfl) ?_
    refine lv_aload_n hx hb dX1_meetUp_60 rfl (lv_at hl 1 rfl) ?_
    refine wd_get hC i4 hW 25 wC_c25 rfl 6 (Nat.le_of_ble_eq_true rfl) f76 rfl rfl dX1_meetUp_61 ?_
    refine lv_iload_n hx hb dX1_meetUp_64 rfl (lv_at hl 3 rfl) ?_
    obtain ⟨hi19, h⟩ := ck_of h
    refine wd_iald hC hW 26 wC_c26 hi19 dX1_meetUp_65 ?_
    refine wd_put hC i1 tyX1_ok nmX1 hW 59 wP_c81 rfl 3 (Nat.le_of_ble_eq_true rfl) f22 rfl rfl rfl rfl (Nat.le_of_ble_eq_true rfl) wP_s81_3 dX1_meetUp_66 (fun H locs hW => ?_)
    obtain ⟨P20, e21, h⟩ := nm_of h
    replace hW := wq_P e21 hW
    refine lv_aload_n hx hb dX1_meetUp_69 rfl (lv_at hl 0 rfl) ?_
    refine lv_aload_n hx hb dX1_meetUp_70 rfl (lv_at hl 1 rfl) ?_
    refine wd_get hC i4 hW 25 wC_c25 rfl 10 (Nat.le_of_ble_eq_true rfl) f79 rfl rfl dX1_meetUp_71 ?_
    refine lv_iload_n hx hb dX1_meetUp_74 rfl (lv_at hl 2 rfl) ?_
    refine lv_iconst (v := 3) hx hb dX1_meetUp_75 (by decide) ?_
    refine lv_imul hx hb dX1_meetUp_76 ?_
    obtain ⟨hi22, h⟩ := ck_of h
    refine wd_iald hC hW 30 wC_c30 hi22 dX1_meetUp_77 ?_
    refine lv_aload_n hx hb dX1_meetUp_78 rfl (lv_at hl 1 rfl) ?_
    refine wd_get hC i4 hW 25 wC_c25 rfl 10 (Nat.le_of_ble_eq_true rfl) f79 rfl rfl dX1_meetUp_79 ?_
    refine lv_iload_n hx hb dX1_meetUp_82 rfl (lv_at hl 2 rfl) ?_
    refine lv_iconst (v := 3) hx hb dX1_meetUp_83 (by decide) ?_
    refine lv_imul hx hb dX1_meetUp_84 ?_
    refine lv_iconst (v := 1) hx hb dX1_meetUp_85 (by decide) ?_
    refine lv_iadd hx hb dX1_meetUp_86 ?_
    obtain ⟨hi23, h⟩ := ck_of h
    refine wd_iald hC hW 30 wC_c30 hi23 dX1_meetUp_87 ?_
    refine lv_iadd hx hb dX1_meetUp_88 ?_
    refine wd_put hC i1 tyX1_ok nmX1 hW 59 wP_c81 rfl 4 (Nat.le_of_ble_eq_true rfl) f25 rfl rfl rfl rfl (Nat.le_of_ble_eq_true rfl) wP_s81_4 dX1_meetUp_89 (fun H locs hW => ?_)
    obtain ⟨P24, e25, h⟩ := nm_of h
    replace hW := wq_P e25 hW
    refine lv_aload_n hx hb dX1_meetUp_92 rfl (lv_at hl 0 rfl) ?_
    refine lv_aload_n hx hb dX1_meetUp_93 rfl (lv_at hl 1 rfl) ?_
    refine wd_get hC i4 hW 25 wC_c25 rfl 10 (Nat.le_of_ble_eq_true rfl) f79 rfl rfl dX1_meetUp_94 ?_
    refine lv_iload_n hx hb dX1_meetUp_97 rfl (lv_at hl 3 rfl) ?_
    refine lv_iconst (v := 3) hx hb dX1_meetUp_98 (by decide) ?_
    refine lv_imul hx hb dX1_meetUp_99 ?_
    obtain ⟨hi26, h⟩ := ck_of h
    refine wd_iald hC hW 30 wC_c30 hi26 dX1_meetUp_100 ?_
    refine lv_aload_n hx hb dX1_meetUp_101 rfl (lv_at hl 1 rfl) ?_
    refine wd_get hC i4 hW 25 wC_c25 rfl 10 (Nat.le_of_ble_eq_true rfl) f79 rfl rfl dX1_meetUp_102 ?_
    refine lv_iload_n hx hb dX1_meetUp_105 rfl (lv_at hl 3 rfl) ?_
    refine lv_iconst (v := 3) hx hb dX1_meetUp_106 (by decide) ?_
    refine lv_imul hx hb dX1_meetUp_107 ?_
    refine lv_iconst (v := 1) hx hb dX1_meetUp_108 (by decide) ?_
    refine lv_iadd hx hb dX1_meetUp_109 ?_
    obtain ⟨hi27, h⟩ := ck_of h
    refine wd_iald hC hW 30 wC_c30 hi27 dX1_meetUp_110 ?_
    refine lv_iadd hx hb dX1_meetUp_111 ?_
    refine wd_put hC i1 tyX1_ok nmX1 hW 59 wP_c81 rfl 5 (Nat.le_of_ble_eq_true rfl) f28 rfl rfl rfl rfl (Nat.le_of_ble_eq_true rfl) wP_s81_5 dX1_meetUp_112 (fun H locs hW => ?_)
    obtain ⟨P28, e29, h⟩ := nm_of h
    replace hW := wq_P e29 hW
    refine lv_aload_n hx hb dX1_meetUp_115 rfl (lv_at hl 1 rfl) ?_
    refine wd_get hC i4 hW 25 wC_c25 rfl 10 (Nat.le_of_ble_eq_true rfl) f79 rfl rfl dX1_meetUp_116 ?_
    refine lv_iload_n hx hb dX1_meetUp_119 rfl (lv_at hl 2 rfl) ?_
    refine lv_iconst (v := 3) hx hb dX1_meetUp_120 (by decide) ?_
    refine lv_imul hx hb dX1_meetUp_121 ?_
    refine lv_iconst (v := 2) hx hb dX1_meetUp_122 (by decide) ?_
    refine lv_iadd hx hb dX1_meetUp_123 ?_
    obtain ⟨hi30, h⟩ := ck_of h
    refine wd_iald hC hW 30 wC_c30 hi30 dX1_meetUp_124 ?_
    refine lv_istore (lv' := [(4, .int (S.2.1 30 ((p1 * 3) + 2).toNatClampNeg)), (0, .ref (ad 81)), (1, .ref (ad 25)), (2, .int p1), (3, .int p2)]) hx hb dX1_meetUp_125 hl (by decide) rfl (fun ls hl => ?_)
    refine lv_aload_n hx hb dX1_meetUp_127 rfl (lv_at hl 2 rfl) ?_
    refine wd_get hC i4 hW 25 wC_c25 rfl 10 (Nat.le_of_ble_eq_true rfl) f79 rfl rfl dX1_meetUp_128 ?_
    refine lv_iload_n hx hb dX1_meetUp_131 rfl (lv_at hl 4 rfl) ?_
    refine lv_iconst (v := 3) hx hb dX1_meetUp_132 (by decide) ?_
    refine lv_imul hx hb dX1_meetUp_133 ?_
    refine lv_iconst (v := 2) hx hb dX1_meetUp_134 (by decide) ?_
    refine lv_iadd hx hb dX1_meetUp_135 ?_
    obtain ⟨hi31, h⟩ := ck_of h
    refine wd_iald hC hW 30 wC_c30 hi31 dX1_meetUp_136 ?_
    refine lv_istore (lv' := [(5, .int (S.2.1 30 ((p2 * 3) + 2).toNatClampNeg)), (4, .int (S.2.1 30 ((p1 * 3) + 2).toNatClampNeg)), (0, .ref (ad 81)), (1, .ref (ad 25)), (2, .int p1), (3, .int p2)]) hx hb dX1_meetUp_137 hl (by decide) rfl (fun ls hl => ?_)
    refine lv_aload_n hx hb dX1_meetUp_139 rfl (lv_at hl 2 rfl) ?_
    refine lv_iload hx hb dX1_meetUp_140 (lv_at hl 1 rfl) ?_
    obtain ⟨q33, hq34, h⟩ := bd_of h
    have hJ156 : ∀ (H : Heap) (locs : List Loc) (ls : Array Slot), Wd D cy A s (wC ad cy S ++ (wP ad cy P28 ++ X)) H locs → lv_has ls 7 [(5, .int (S.2.1 30 ((p2 * 3) + 2).toNatClampNeg)), (4, .int (S.2.1 30 ((p1 * 3) + 2).toNatClampNeg)), (0, .ref (ad 81)), (1, .ref (ad 25)), (2, .int p1), (3, .int p2)] → W p l e (RM 2) s m args below meth c H locs 0 0 Q (F0 m 156 ls [.int q33, .ref (ad 81)]) := by
      intro H locs ls hW hl
      refine wd_put hC i1 tyX1_ok nmX1 hW 59 wP_c81 rfl 6 (Nat.le_of_ble_eq_true rfl) f31 rfl rfl rfl rfl (Nat.le_of_ble_eq_true rfl) wP_s81_6 dX1_meetUp_156 (fun H locs hW => ?_)
      obtain ⟨P35, e36, h⟩ := nm_of h
      replace hW := wq_P e36 hW
      refine lv_aload_n hx hb dX1_meetUp_159 rfl (lv_at hl 2 rfl) ?_
      refine lv_iload hx hb dX1_meetUp_160 (lv_at hl 0 rfl) ?_
      obtain ⟨q38, hq39, h⟩ := bd_of h
      have hJ176 : ∀ (H : Heap) (locs : List Loc) (ls : Array Slot), Wd D cy A s (wC ad cy S ++ (wP ad cy P35 ++ X)) H locs → lv_has ls 7 [(5, .int (S.2.1 30 ((p2 * 3) + 2).toNatClampNeg)), (4, .int (S.2.1 30 ((p1 * 3) + 2).toNatClampNeg)), (0, .ref (ad 81)), (1, .ref (ad 25)), (2, .int p1), (3, .int p2)] → W p l e (RM 2) s m args below meth c H locs 0 0 Q (F0 m 176 ls [.int q38, .ref (ad 81)]) := by
        intro H locs ls hW hl
        refine wd_put hC i1 tyX1_ok nmX1 hW 59 wP_c81 rfl 7 (Nat.le_of_ble_eq_true rfl) f34 rfl rfl rfl rfl (Nat.le_of_ble_eq_true rfl) wP_s81_7 dX1_meetUp_176 (fun H locs hW => ?_)
        obtain ⟨P40, e41, h⟩ := nm_of h
        replace hW := wq_P e41 hW
        refine lv_iconst (v := 1) hx hb dX1_meetUp_179 (by decide) ?_
        refine lv_istore (lv' := [(6, .int 1), (5, .int (S.2.1 30 ((p2 * 3) + 2).toNatClampNeg)), (4, .int (S.2.1 30 ((p1 * 3) + 2).toNatClampNeg)), (0, .ref (ad 81)), (1, .ref (ad 25)), (2, .int p1), (3, .int p2)]) hx hb dX1_meetUp_180 hl (by decide) rfl (fun ls hl => ?_)
        have hL182 : ∀ (n : Nat) (P : St) (x2 : Int32) (x3 : Int32) (x6 : Int32)  (H : Heap) (locs : List Loc) (ls : Array Slot) (r : (St)), m_X1_meetUp_L182 n S P x2 x3 x6 = some r → Wd D cy A s (wC ad cy S ++ (wP ad cy P ++ X)) H locs → lv_has ls 7 [(0, .ref (ad 81)), (1, .ref (ad 25)), (2, .int x2), (3, .int x3), (6, .int x6)] → (∀ (H : Heap) (locs : List Loc) (ls : Array Slot), Wd D cy A s (wC ad cy S ++ (wP ad cy r ++ X)) H locs → lv_has ls 7 [(0, .ref (ad 81)), (1, .ref (ad 25)), (2, .int x2), (3, .int x3)] → W p l e (RM 2) s m args below meth c H locs 0 0 Q (F0 m 255 ls [])) → W p l e (RM 2) s m args below meth c H locs 0 0 Q (F0 m 182 ls []) := by
          intro n
          induction n with
          | zero =>
            intro P x2 x3 x6  H locs ls r h
            exact absurd (h.symm.trans (m_X1_meetUp_L182_0 ..)) (by simp)
          | succ n ih =>
            intro P x2 x3 x6  H locs ls r h hW hl kk
            rw [m_X1_meetUp_L182_s] at h
            refine lv_iload hx hb dX1_meetUp_182 (lv_at hl 4 rfl) ?_
            refine lv_bipush (v := 40) hx hb dX1_meetUp_184 (by decide) ?_
            refine lv_icmp_gt (tgt := 255) hx hb dX1_meetUp_186 (by decide) (fun c44 => ?_) (fun c44 => ?_)
            · replace h := ite_t h c44
              obtain rfl := Option.some.inj h
              exact kk _ _ _ hW (lv_sub hl [0, 1, 2, 3] rfl)
            · replace h := ite_f h c44
              refine lv_aload_n hx hb dX1_meetUp_189 rfl (lv_at hl 0 rfl) ?_
              refine wd_get hC i1 hW 59 wP_c81 rfl 8 (Nat.le_of_ble_eq_true rfl) f37 rfl rfl dX1_meetUp_190 ?_
              refine lv_iload hx hb dX1_meetUp_193 (lv_at hl 4 rfl) ?_
              refine lv_aload_n hx hb dX1_meetUp_195 rfl (lv_at hl 1 rfl) ?_
              refine wd_get hC i4 hW 25 wC_c25 rfl 0 (Nat.le_of_ble_eq_true rfl) f62 rfl rfl dX1_meetUp_196 ?_
              refine lv_iload_n hx hb dX1_meetUp_199 rfl (lv_at hl 2 rfl) ?_
              obtain ⟨hi45, h⟩ := ck_of h
              refine wd_aldq hC hW 3 wC_c3 hi45 rfl dX1_meetUp_200 ?_
              refine lv_iconst (v := 2) hx hb dX1_meetUp_201 (by decide) ?_
              refine lv_iload hx hb dX1_meetUp_202 (lv_at hl 4 rfl) ?_
              refine lv_aload_n hx hb dX1_meetUp_204 rfl (lv_at hl 1 rfl) ?_
              refine wd_get hC i4 hW 25 wC_c25 rfl 11 (Nat.le_of_ble_eq_true rfl) f82 rfl rfl dX1_meetUp_205 ?_
              refine lv_iload_n hx hb dX1_meetUp_208 rfl (lv_at hl 2 rfl) ?_
              obtain ⟨hi46, h⟩ := ck_of h
              refine wd_iald hC hW 31 wC_c31 hi46 dX1_meetUp_209 ?_
              refine lv_aload_n hx hb dX1_meetUp_210 rfl (lv_at hl 1 rfl) ?_
              refine wd_get hC i4 hW 25 wC_c25 rfl 2 (Nat.le_of_ble_eq_true rfl) f85 rfl rfl dX1_meetUp_211 ?_
              refine lv_imul hx hb dX1_meetUp_214 ?_
              obtain ⟨r47, hr48, h⟩ := bd_of h
              refine wd_callV1 (As := [.int 2, .int x6, .int ((S.2.1 31 x2.toNatClampNeg) * (S.1 31))]) hC hW (4 + 3 * x2.toNatClampNeg) (wC_L (in_lt hi45)) rfl (c_X3_oddsOf l D cy ad (wP ad cy P ++ X) S x2.toNatClampNeg 2 x6 ((S.2.1 31 x2.toNatClampNeg) * (S.1 31)) r47 hr48 (in_lt hi45)) (cwV 3 hts (gu_V w_15_11 w_44_9 w_15_9 w_15_10 w_1_20) rfl rfl rfl hdX3_oddsOf ⟨Nat.le_of_ble_eq_true rfl, Nat.le_of_ble_eq_true rfl⟩) rfl hl.1 rfl (Nat.le_of_ble_eq_true rfl) ⟨Nat.zero_le _, Nat.zero_le _⟩ dX1_meetUp_215 (fun H locs hW => ?_)
              obtain ⟨hi49, h⟩ := ck_of h
              refine wd_iast hC hW 60 wP_c82 hi49 wP_t82 dX1_meetUp_218 (fun H locs hW => ?_)
              obtain ⟨P50, e51, h⟩ := nm_of h
              replace hW := wq_P e51 hW
              refine lv_aload_n hx hb dX1_meetUp_219 rfl (lv_at hl 0 rfl) ?_
              refine wd_get hC i1 hW 59 wP_c81 rfl 9 (Nat.le_of_ble_eq_true rfl) f41 rfl rfl dX1_meetUp_220 ?_
              refine lv_iload hx hb dX1_meetUp_223 (lv_at hl 4 rfl) ?_
              refine lv_aload_n hx hb dX1_meetUp_225 rfl (lv_at hl 1 rfl) ?_
              refine wd_get hC i4 hW 25 wC_c25 rfl 0 (Nat.le_of_ble_eq_true rfl) f62 rfl rfl dX1_meetUp_226 ?_
              refine lv_iload_n hx hb dX1_meetUp_229 rfl (lv_at hl 3 rfl) ?_
              obtain ⟨hi52, h⟩ := ck_of h
              refine wd_aldq hC hW 3 wC_c3 hi52 rfl dX1_meetUp_230 ?_
              refine lv_iconst (v := 2) hx hb dX1_meetUp_231 (by decide) ?_
              refine lv_iload hx hb dX1_meetUp_232 (lv_at hl 4 rfl) ?_
              refine lv_aload_n hx hb dX1_meetUp_234 rfl (lv_at hl 1 rfl) ?_
              refine wd_get hC i4 hW 25 wC_c25 rfl 11 (Nat.le_of_ble_eq_true rfl) f82 rfl rfl dX1_meetUp_235 ?_
              refine lv_iload_n hx hb dX1_meetUp_238 rfl (lv_at hl 3 rfl) ?_
              obtain ⟨hi53, h⟩ := ck_of h
              refine wd_iald hC hW 31 wC_c31 hi53 dX1_meetUp_239 ?_
              refine lv_aload_n hx hb dX1_meetUp_240 rfl (lv_at hl 1 rfl) ?_
              refine wd_get hC i4 hW 25 wC_c25 rfl 2 (Nat.le_of_ble_eq_true rfl) f85 rfl rfl dX1_meetUp_241 ?_
              refine lv_imul hx hb dX1_meetUp_244 ?_
              obtain ⟨r54, hr55, h⟩ := bd_of h
              refine wd_callV1 (As := [.int 2, .int x6, .int ((S.2.1 31 x3.toNatClampNeg) * (S.1 31))]) hC hW (4 + 3 * x3.toNatClampNeg) (wC_L (in_lt hi52)) rfl (c_X3_oddsOf l D cy ad (wP ad cy P50 ++ X) S x3.toNatClampNeg 2 x6 ((S.2.1 31 x3.toNatClampNeg) * (S.1 31)) r54 hr55 (in_lt hi52)) (cwV 3 hts (gu_V w_15_11 w_44_9 w_15_9 w_15_10 w_1_20) rfl rfl rfl hdX3_oddsOf ⟨Nat.le_of_ble_eq_true rfl, Nat.le_of_ble_eq_true rfl⟩) rfl hl.1 rfl (Nat.le_of_ble_eq_true rfl) ⟨Nat.zero_le _, Nat.zero_le _⟩ dX1_meetUp_245 (fun H locs hW => ?_)
              obtain ⟨hi56, h⟩ := ck_of h
              refine wd_iast hC hW 61 wP_c83 hi56 wP_t83 dX1_meetUp_248 (fun H locs hW => ?_)
              obtain ⟨P57, e58, h⟩ := nm_of h
              replace hW := wq_P e58 hW
              refine lv_iinc (v := x6 + 1) (lv' := [(6, .int (x6 + 1)), (0, .ref (ad 81)), (1, .ref (ad 25)), (2, .int x2), (3, .int x3)]) hx hb dX1_meetUp_249 hl (k := 4) rfl rfl (by decide) rfl (fun ls hl => ?_)
              refine lv_goto (tgt := 182) hx hb dX1_meetUp_252 (by decide) ?_
              exact ih P57 x2 x3 (x6 + 1) _ _ _ r h hW (lv_sub hl [1, 2, 3, 4, 0] rfl) kk
        obtain ⟨q42, hq43, h⟩ := bd_of h
        refine hL182 n P40 p1 p2 1  _ _ _ q42 hq43 hW (lv_sub hl [3, 4, 5, 6, 0] rfl) (fun H locs ls hW hl => ?_)
        refine lv_aload_n hx hb dX1_meetUp_255 rfl (lv_at hl 0 rfl) ?_
        obtain ⟨r59, hr60, h⟩ := bd_of h
        refine wd_callV0 (As := []) hC hW 59 wP_c81 rfl (c_X1_fillSecond l D cy ad X n S q42 r59 hr60) (cwV 0 hts (gu_V w_44_13 w_44_10 w_44_11 w_44_12 w_43_2) rfl rfl rfl hdX1_fillSecond ⟨Nat.le_of_ble_eq_true rfl, Nat.le_of_ble_eq_true rfl⟩) rfl hl.1 rfl (Nat.le_of_ble_eq_true rfl) ⟨Nat.zero_le _, Nat.zero_le _⟩ dX1_meetUp_256 (fun H locs hW => ?_)
        obtain rfl := Option.some.inj h
        exact wd_vret hA hQ hC hr hk hW dX1_meetUp_259
      replace h := hq39
      refine lv_if_ne (tgt := 169) hx hb dX1_meetUp_162 (by decide) (fun c37 => ?_) (fun c37 => ?_)
      · replace h := ite_f h c37
        refine lv_aload_n hx hb dX1_meetUp_169 rfl (lv_at hl 2 rfl) ?_
        refine wd_get hC i1 hW 59 wP_c81 rfl 5 (Nat.le_of_ble_eq_true rfl) f28 rfl rfl dX1_meetUp_170 ?_
        refine lv_iload hx hb dX1_meetUp_173 (lv_at hl 0 rfl) ?_
        refine lv_iadd hx hb dX1_meetUp_175 ?_
        obtain rfl := Option.some.inj h
        exact hJ176 _ _ _ hW (lv_sub hl [0, 1, 2, 3, 4, 5] rfl)
      · replace h := ite_t h c37
        refine lv_iconst (v := 0) hx hb dX1_meetUp_165 (by decide) ?_
        refine lv_goto (tgt := 176) hx hb dX1_meetUp_166 (by decide) ?_
        obtain rfl := Option.some.inj h
        exact hJ176 _ _ _ hW (lv_sub hl [0, 1, 2, 3, 4, 5] rfl)
    replace h := hq34
    refine lv_if_ne (tgt := 149) hx hb dX1_meetUp_142 (by decide) (fun c32 => ?_) (fun c32 => ?_)
    · replace h := ite_f h c32
      refine lv_aload_n hx hb dX1_meetUp_149 rfl (lv_at hl 2 rfl) ?_
      refine wd_get hC i1 hW 59 wP_c81 rfl 4 (Nat.le_of_ble_eq_true rfl) f25 rfl rfl dX1_meetUp_150 ?_
      refine lv_iload hx hb dX1_meetUp_153 (lv_at hl 1 rfl) ?_
      refine lv_iadd hx hb dX1_meetUp_155 ?_
      obtain rfl := Option.some.inj h
      exact hJ156 _ _ _ hW (lv_sub hl [0, 1, 2, 3, 4, 5] rfl)
    · replace h := ite_t h c32
      refine lv_iconst (v := 0) hx hb dX1_meetUp_145 (by decide) ?_
      refine lv_goto (tgt := 156) hx hb dX1_meetUp_146 (by decide) ?_
      obtain rfl := Option.some.inj h
      exact hJ156 _ _ _ hW (lv_sub hl [0, 1, 2, 3, 4, 5] rfl)
  replace h := hq12
  refine lv_icmp_ge (tgt := 45) hx hb dX1_meetUp_38 (by decide) (fun c10 => ?_) (fun c10 => ?_)
  · replace h := ite_t h c10
    refine lv_iconst (v := 0) hx hb dX1_meetUp_45 (by decide) ?_
    obtain rfl := Option.some.inj h
    exact hJ46 _ _ _ hW (lv_sub hl [0, 1, 2, 3] rfl)
  · replace h := ite_f h c10
    refine lv_iconst (v := 1) hx hb dX1_meetUp_41 (by decide) ?_
    refine lv_goto (tgt := 46) hx hb dX1_meetUp_42 (by decide) ?_
    obtain rfl := Option.some.inj h
    exact hJ46 _ _ _ hW (lv_sub hl [0, 1, 2, 3] rfl)
