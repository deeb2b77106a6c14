theorem hdX9_aheadOf : yX9_aheadOf.cls = RX9 ∧ yX9_aheadOf.cls ≠ "java/lang/invoke/MethodHandle" ∧ yX9_aheadOf.cls ≠ "java/lang/invoke/VarHandle" ∧ (parseMethodDescriptor yX9_aheadOf.desc).map (fun d => d.parameters.length) = some 1 := by decide +kernel
theorem hdX9_asksThen : yX9_asksThen.cls = RX9 ∧ yX9_asksThen.cls ≠ "java/lang/invoke/MethodHandle" ∧ yX9_asksThen.cls ≠ "java/lang/invoke/VarHandle" ∧ (parseMethodDescriptor yX9_asksThen.desc).map (fun d => d.parameters.length) = some 5 := by decide +kernel
theorem hdX9_calledNow : yX9_calledNow.cls = RX9 ∧ yX9_calledNow.cls ≠ "java/lang/invoke/MethodHandle" ∧ yX9_calledNow.cls ≠ "java/lang/invoke/VarHandle" ∧ (parseMethodDescriptor yX9_calledNow.desc).map (fun d => d.parameters.length) = some 0 := by decide +kernel
theorem hdX9_changesAtFirst : yX9_changesAtFirst.cls = RX9 ∧ yX9_changesAtFirst.cls ≠ "java/lang/invoke/MethodHandle" ∧ yX9_changesAtFirst.cls ≠ "java/lang/invoke/VarHandle" ∧ (parseMethodDescriptor yX9_changesAtFirst.desc).map (fun d => d.parameters.length) = some 0 := by decide +kernel
theorem hdX9_flag : yX9_flag.cls ≠ "java/lang/invoke/MethodHandle" ∧ yX9_flag.cls ≠ "java/lang/invoke/VarHandle" ∧ (parseMethodDescriptor yX9_flag.desc).map (fun d => d.parameters.length) = some 1 := by decide +kernel
theorem hdX9_goesOn : yX9_goesOn.cls = RX9 ∧ yX9_goesOn.cls ≠ "java/lang/invoke/MethodHandle" ∧ yX9_goesOn.cls ≠ "java/lang/invoke/VarHandle" ∧ (parseMethodDescriptor yX9_goesOn.desc).map (fun d => d.parameters.length) = some 0 := by decide +kernel
theorem hdX9_in : yX9_in.cls ≠ "java/lang/invoke/MethodHandle" ∧ yX9_in.cls ≠ "java/lang/invoke/VarHandle" ∧ (parseMethodDescriptor yX9_in.desc).map (fun d => d.parameters.length) = some 3 := by decide +kernel
theorem hdX9_isAhead : yX9_isAhead.cls = RX9 ∧ yX9_isAhead.cls ≠ "java/lang/invoke/MethodHandle" ∧ yX9_isAhead.cls ≠ "java/lang/invoke/VarHandle" ∧ (parseMethodDescriptor yX9_isAhead.desc).map (fun d => d.parameters.length) = some 2 := by decide +kernel
theorem hdX9_isCalledAhead : yX9_isCalledAhead.cls = RX9 ∧ yX9_isCalledAhead.cls ≠ "java/lang/invoke/MethodHandle" ∧ yX9_isCalledAhead.cls ≠ "java/lang/invoke/VarHandle" ∧ (parseMethodDescriptor yX9_isCalledAhead.desc).map (fun d => d.parameters.length) = some 2 := by decide +kernel
theorem hdX9_isLighter : yX9_isLighter.cls = RX9 ∧ yX9_isLighter.cls ≠ "java/lang/invoke/MethodHandle" ∧ yX9_isLighter.cls ≠ "java/lang/invoke/VarHandle" ∧ (parseMethodDescriptor yX9_isLighter.desc).map (fun d => d.parameters.length) = some 2 := by decide +kernel
theorem hdX9_isOut : yX9_isOut.cls = RX9 ∧ yX9_isOut.cls ≠ "java/lang/invoke/MethodHandle" ∧ yX9_isOut.cls ≠ "java/lang/invoke/VarHandle" ∧ (parseMethodDescriptor yX9_isOut.desc).map (fun d => d.parameters.length) = some 1 := by decide +kernel
theorem hdX9_isOver : yX9_isOver.cls = RX9 ∧ yX9_isOver.cls ≠ "java/lang/invoke/MethodHandle" ∧ yX9_isOver.cls ≠ "java/lang/invoke/VarHandle" ∧ (parseMethodDescriptor yX9_isOver.desc).map (fun d => d.parameters.length) = some 0 := by decide +kernel
theorem hdX9_isStill : yX9_isStill.cls = RX9 ∧ yX9_isStill.cls ≠ "java/lang/invoke/MethodHandle" ∧ yX9_isStill.cls ≠ "java/lang/invoke/VarHandle" ∧ (parseMethodDescriptor yX9_isStill.desc).map (fun d => d.parameters.length) = some 1 := by decide +kernel
theorem hdX9_liftBegins : yX9_liftBegins.cls = RX9 ∧ yX9_liftBegins.cls ≠ "java/lang/invoke/MethodHandle" ∧ yX9_liftBegins.cls ≠ "java/lang/invoke/VarHandle" ∧ (parseMethodDescriptor yX9_liftBegins.desc).map (fun d => d.parameters.length) = some 0 := by decide +kernel
theorem hdX9_liftEnds : yX9_liftEnds.cls = RX9 ∧ yX9_liftEnds.cls ≠ "java/lang/invoke/MethodHandle" ∧ yX9_liftEnds.cls ≠ "java/lang/invoke/VarHandle" ∧ (parseMethodDescriptor yX9_liftEnds.desc).map (fun d => d.parameters.length) = some 0 := by decide +kernel
theorem hdX9_notes : yX9_notes.cls = RX9 ∧ yX9_notes.cls ≠ "java/lang/invoke/MethodHandle" ∧ yX9_notes.cls ≠ "java/lang/invoke/VarHandle" ∧ (parseMethodDescriptor yX9_notes.desc).map (fun d => d.parameters.length) = some 1 := by decide +kernel
theorem hdX9_of : yX9_of.cls = RX9 ∧ yX9_of.cls ≠ "java/lang/invoke/MethodHandle" ∧ yX9_of.cls ≠ "java/lang/invoke/VarHandle" ∧ (parseMethodDescriptor yX9_of.desc).map (fun d => d.parameters.length) = some 2 := by decide +kernel
theorem hdX9_planOf : yX9_planOf.cls = RX9 ∧ yX9_planOf.cls ≠ "java/lang/invoke/MethodHandle" ∧ yX9_planOf.cls ≠ "java/lang/invoke/VarHandle" ∧ (parseMethodDescriptor yX9_planOf.desc).map (fun d => d.parameters.length) = some 3 := by decide +kernel
theorem hdX9_roundBegins : yX9_roundBegins.cls = RX9 ∧ yX9_roundBegins.cls ≠ "java/lang/invoke/MethodHandle" ∧ yX9_roundBegins.cls ≠ "java/lang/invoke/VarHandle" ∧ (parseMethodDescriptor yX9_roundBegins.desc).map (fun d => d.parameters.length) = some 0 := by decide +kernel
theorem hdX9_sets : yX9_sets.cls = RX9 ∧ yX9_sets.cls ≠ "java/lang/invoke/MethodHandle" ∧ yX9_sets.cls ≠ "java/lang/invoke/VarHandle" ∧ (parseMethodDescriptor yX9_sets.desc).map (fun d => d.parameters.length) = some 3 := by decide +kernel
theorem hdX9_sumOf : yX9_sumOf.cls = RX9 ∧ yX9_sumOf.cls ≠ "java/lang/invoke/MethodHandle" ∧ yX9_sumOf.cls ≠ "java/lang/invoke/VarHandle" ∧ (parseMethodDescriptor yX9_sumOf.desc).map (fun d => d.parameters.length) = some 1 := by decide +kernel
theorem hdX9_tableOdds : yX9_tableOdds.cls = RX9 ∧ yX9_tableOdds.cls ≠ "java/lang/invoke/MethodHandle" ∧ yX9_tableOdds.cls ≠ "java/lang/invoke/VarHandle" ∧ (parseMethodDescriptor yX9_tableOdds.desc).map (fun d => d.parameters.length) = some 3 := by decide +kernel
def m_X9_thrown (T : St) : Option (Int32) :=
  some (T.1 0)
set_option maxHeartbeats 4000000 in
set_option maxRecDepth 100000 in
theorem c_X9_thrown (l : Launch) (D : va_G) (cy : Nat → ClassId) (ad : Nat → Nat) (X : va_W) (T : St) (r : (Int32)) (h : m_X9_thrown T = some r) : CT l yX9_thrown (wu yX9_thrown cX9_thrown 1 (some .int)) 0 D cy [.ref (ad 0)] (wR ad cy T ++ X) (some (.int r)) (wR ad cy T ++ X) := by
  refine CT.mk (cc := cX9_thrown) (maxL := 1) (ret := (some .int)) (own := RX9) (by decide) rfl rfl (Nat.le_of_ble_eq_true rfl) ?_
  intro p e s m args below meth c ls A Q hA hQ hC hr hk hW hl
  have hx := hC.1
  have hb := hC.2.1
  have hown := hC.2.2.2.1
  have hts := hC.2.2.2.2
  have hl : lv_has ls 1 [(0, .ref (ad 0))] := hl
  have f77 := hts _ (wu_in w_6_14)
  have i9 := (fun w h => wu_in (inc_9 w h) : ∀ w ∈ u_ws RX9 TX9 40, w ∈ (wu yX9_thrown cX9_thrown 1 (some .int)))
  unfold m_X9_thrown at h
  refine lv_aload_n hx hb dX9_thrown_0 rfl (lv_at hl 0 rfl) ?_
  refine wd_get hC i9 hW 0 wR_c0 rfl 0 (Nat.le_of_ble_eq_true rfl) f77 rfl rfl dX9_thrown_1 ?_
  obtain rfl := Option.some.inj h
  exact wd_iret hA hQ hC hr hk hW dX9_thrown_4
def m_X9_in (T : St) (p0 : Int64) (p1 : Int64) (p2 : Int64) : Option (Int32) :=
  if (lg_cmp p0 p1) < 0 then (some 0) else (if 0 < (lg_cmp p0 p2) then (some 0) else (some 1))
set_option maxHeartbeats 4000000 in
set_option maxRecDepth 100000 in
theorem c_X9_in (l : Launch) (D : va_G) (cy : Nat → ClassId) (ad : Nat → Nat) (X : va_W) (T : St) (p0 : Int64) (p1 : Int64) (p2 : Int64) (r : (Int32)) (h : m_X9_in T p0 p1 p2 = some r) : CT l yX9_in (wu yX9_in cX9_in 6 (some .boolean)) 0 D cy [.long p0, .long p1, .long p2] (wR ad cy T ++ X) (some (.int r)) (wR ad cy T ++ X) := by
  refine CT.mk (cc := cX9_in) (maxL := 6) (ret := (some .boolean)) (own := RX9) (by decide) rfl rfl (Nat.le_of_ble_eq_true rfl) ?_
  intro p e s m args below meth c ls A Q hA hQ hC hr hk hW hl
  have hx := hC.1
  have hb := hC.2.1
  have hown := hC.2.2.2.1
  have hts := hC.2.2.2.2
  have hl : lv_has ls 6 [(0, .long p0), (2, .long p1), (4, .long p2)] := hl
  unfold m_X9_in at h
  refine lv_lload_n hx hb dX9_in_0 rfl (lv_at hl 0 rfl) ?_
  refine lv_lload_n hx hb dX9_in_1 rfl (lv_at hl 1 rfl) ?_
  refine W.lcmp hx hb dX9_in_2 ?_
  refine lv_if_lt (tgt := 17) hx hb dX9_in_3 (by decide) (fun c1 => ?_) (fun c1 => ?_)
  · replace h := ite_t h c1
    refine lv_iconst (v := 0) hx hb dX9_in_17 (by decide) ?_
    obtain rfl := Option.some.inj h
    exact wd_zret hA hQ hC hr hk hW rfl dX9_in_18
  · replace h := ite_f h c1
    refine lv_lload_n hx hb dX9_in_6 rfl (lv_at hl 0 rfl) ?_
    refine lv_lload hx hb dX9_in_7 (lv_at hl 2 rfl) ?_
    refine W.lcmp hx hb dX9_in_9 ?_
    refine lv_if_gt (tgt := 17) hx hb dX9_in_10 (by decide) (fun c2 => ?_) (fun c2 => ?_)
    · replace h := ite_t h c2
      refine lv_iconst (v := 0) hx hb dX9_in_17 (by decide) ?_
      obtain rfl := Option.some.inj h
      exact wd_zret hA hQ hC hr hk hW rfl dX9_in_18
    · replace h := ite_f h c2
      refine lv_iconst (v := 1) hx hb dX9_in_13 (by decide) ?_
      refine lv_goto (tgt := 18) hx hb dX9_in_14 (by decide) ?_
      obtain rfl := Option.some.inj h
      exact wd_zret hA hQ hC hr hk hW rfl dX9_in_18
def m_X9_flag (T : St) (p0 : Int32) : Option (Int32) :=
  if p0 = 0 then (some 0) else (some 1)
set_option maxHeartbeats 4000000 in
set_option maxRecDepth 100000 in
theorem c_X9_flag (l : Launch) (D : va_G) (cy : Nat → ClassId) (ad : Nat → Nat) (X : va_W) (T : St) (p0 : Int32) (r : (Int32)) (h : m_X9_flag T p0 = some r) : CT l yX9_flag (wu yX9_flag cX9_flag 1 (some .int)) 0 D cy [.int p0] (wR ad cy T ++ X) (some (.int r)) (wR ad cy T ++ X) := by
  refine CT.mk (cc := cX9_flag) (maxL := 1) (ret := (some .int)) (own := RX9) (by decide) rfl rfl (Nat.le_of_ble_eq_true rfl) ?_
  intro p e s m args below meth c ls A Q hA hQ hC hr hk hW hl
  have hx := hC.1
  have hb := hC.2.1
  have hown := hC.2.2.2.1
  have hts := hC.2.2.2.2
  have hl : lv_has ls 1 [(0, .int p0)] := hl
  unfold m_X9_flag at h
  refine lv_iload_n hx hb dX9_flag_0 rfl (lv_at hl 0 rfl) ?_
  refine lv_if_eq (tgt := 8) hx hb dX9_flag_1 (by decide) (fun c1 => ?_) (fun c1 => ?_)
  · replace h := ite_t h c1
    refine lv_iconst (v := 0) hx hb dX9_flag_8 (by decide) ?_
    obtain rfl := Option.some.inj h
    exact wd_iret hA hQ hC hr hk hW dX9_flag_9
  · replace h := ite_f h c1
    refine lv_iconst (v := 1) hx hb dX9_flag_4 (by decide) ?_
    refine lv_goto (tgt := 9) hx hb dX9_flag_5 (by decide) ?_
    obtain rfl := Option.some.inj h
    exact wd_iret hA hQ hC hr hk hW dX9_flag_9
def m_X9_notes (T : St) (p0 : Int64) : Option (St) :=
  ck (T.1 1) 64 (nm (sJ T 2 (T.1 1).toNatClampNeg p0) (fun T2 => nm (sI T2 1 ((T2.1 1) + 1)) (fun T4 => some T4)))
set_option maxHeartbeats 4000000 in
set_option maxRecDepth 100000 in
theorem c_X9_notes (l : Launch) (D : va_G) (cy : Nat → ClassId) (ad : Nat → Nat) (X : va_W) (T : St) (p0 : Int64) (r : (St)) (h : m_X9_notes T p0 = some r) : CT l yX9_notes (wu yX9_notes cX9_notes 3 none) 0 D cy [.ref (ad 0), .long p0] (wR ad cy T ++ X) (none) (wR ad cy r ++ X) := by
  refine CT.mk (cc := cX9_notes) (maxL := 3) (ret := none) (own := RX9) (by decide) rfl rfl (Nat.le_of_ble_eq_true rfl) ?_
  intro p e s m args below meth c ls A Q hA hQ hC hr hk hW hl
  have hx := hC.1
  have hb := hC.2.1
  have hown := hC.2.2.2.1
  have hts := hC.2.2.2.2
  have hl : lv_has ls 3 [(0, .ref (ad 0)), (1, .long p0)] := hl
  have f7 := hts _ (wu_in w_5_3)
  have i9 := (fun w h => wu_in (inc_9 w h) : ∀ w ∈ u_ws RX9 TX9 40, w ∈ (wu yX9_notes cX9_notes 3 none))
  have f81 := hts _ (wu_in w_19_2)
  unfold m_X9_notes at h
  refine lv_aload_n hx hb dX9_notes_0 rfl (lv_at hl 0 rfl) ?_
  refine wd_get hC i9 hW 0 wR_c0 rfl 2 (Nat.le_of_ble_eq_true rfl) f7 rfl rfl dX9_notes_1 ?_
  refine lv_aload_n hx hb dX9_notes_4 rfl (lv_at hl 0 rfl) ?_
  refine wd_get hC i9 hW 0 wR_c0 rfl 1 (Nat.le_of_ble_eq_true rfl) f81 rfl rfl dX9_notes_5 ?_
  refine lv_lload_n hx hb dX9_notes_8 rfl (lv_at hl 1 rfl) ?_
  obtain ⟨hi1, h⟩ := ck_of h
  refine wd_last hC hW 1 wR_c1 hi1 wR_t1 dX9_notes_9 (fun H locs hW => ?_)
  obtain ⟨T2, e3, h⟩ := nm_of h
  replace hW := wq_T e3 hW
  refine lv_aload_n hx hb dX9_notes_10 rfl (lv_at hl 0 rfl) ?_
  refine lv_dup hx hb dX9_notes_11 rfl ?_
  refine wd_get hC i9 hW 0 wR_c0 rfl 1 (Nat.le_of_ble_eq_true rfl) f81 rfl rfl dX9_notes_12 ?_
  refine lv_iconst (v := 1) hx hb dX9_notes_15 (by decide) ?_
  refine lv_iadd hx hb dX9_notes_16 ?_
  refine wd_put hC i9 tyX9_ok nmX9 hW 0 wR_c0 rfl 1 (Nat.le_of_ble_eq_true rfl) f81 rfl rfl rfl rfl (Nat.le_of_ble_eq_true rfl) wR_s0_1 dX9_notes_17 (fun H locs hW => ?_)
  obtain ⟨T4, e5, h⟩ := nm_of h
  replace hW := wq_T e5 hW
  obtain rfl := Option.some.inj h
  exact wd_vret hA hQ hC hr hk hW dX9_notes_20
def m_X9_isLifter (T : St) (p0 : Int32) : Option (Int32) :=
  (m_X9_in T p0.toInt64 0 (((T.1 3) - 1).toInt64)).bind (fun r1 => ckb r1 (some r1))
set_option maxHeartbeats 4000000 in
set_option maxRecDepth 100000 in
theorem c_X9_isLifter (l : Launch) (D : va_G) (cy : Nat → ClassId) (ad : Nat → Nat) (X : va_W) (T : St) (p0 : Int32) (r : (Int32)) (h : m_X9_isLifter T p0 = some r) : CT l yX9_isLifter (wu yX9_isLifter cX9_isLifter 2 (some .boolean)) 1 D cy [.ref (ad 0), .int p0] (wR ad cy T ++ X) (some (.int r)) (wR ad cy T ++ X) := by
  refine CT.mk (cc := cX9_isLifter) (maxL := 2) (ret := (some .boolean)) (own := RX9) (by decide) rfl rfl (Nat.le_of_ble_eq_true rfl) ?_
  intro p e s m args below meth c ls A Q hA hQ hC hr hk hW hl
  have hx := hC.1
  have hb := hC.2.1
  have hown := hC.2.2.2.1
  have hts := hC.2.2.2.2
  have hl : lv_has ls 2 [(0, .ref (ad 0)), (1, .int p0)] := hl
  have f84 := hts _ (wu_in w_9_13)
  have i9 := (fun w h => wu_in (inc_9 w h) : ∀ w ∈ u_ws RX9 TX9 40, w ∈ (wu yX9_isLifter cX9_isLifter 2 (some .boolean)))
  unfold m_X9_isLifter at h
  refine lv_iload_n hx hb dX9_isLifter_0 rfl (lv_at hl 1 rfl) ?_
  refine lv_i2l (v := p0.toInt64) hx hb dX9_isLifter_1 rfl ?_
  refine lv_lconst (v := 0) hx hb dX9_isLifter_2 (by decide) ?_
  refine lv_aload_n hx hb dX9_isLifter_3 rfl (lv_at hl 0 rfl) ?_
  refine wd_get hC i9 hW 0 wR_c0 rfl 3 (Nat.le_of_ble_eq_true rfl) f84 rfl rfl dX9_isLifter_4 ?_
  refine lv_iconst (v := 1) hx hb dX9_isLifter_7 (by decide) ?_
  refine lv_isub hx hb dX9_isLifter_8 ?_
  refine lv_i2l (v := ((T.1 3) - 1).toInt64) hx hb dX9_isLifter_9 rfl ?_
  obtain ⟨r1, hr2, h⟩ := bd_of h
  refine wd_callS1 (As := [.long p0.toInt64, .long 0, .long (((T.1 3) - 1).toInt64)]) hC hW (c_X9_in l D cy ad X T p0.toInt64 0 (((T.1 3) - 1).toInt64) r1 hr2) (va_cwS 3 hts (gu_S w_7_6 w_7_4 w_7_5 w_1_5) rfl rfl rfl hdX9_in ⟨Nat.le_of_ble_eq_true rfl, Nat.le_of_ble_eq_true rfl⟩) rfl hl.1 rfl (Nat.le_of_ble_eq_true rfl) ⟨Nat.zero_le _, Nat.zero_le _⟩ dX9_isLifter_10 (fun H locs hW => ?_)
  obtain ⟨hb3, h⟩ := ckb_of h
  obtain rfl := Option.some.inj h
  exact wd_zret hA hQ hC hr hk hW (ckb_nar hb3) dX9_isLifter_13
def m_X9_isLift (T : St) (p0 : Int32) : Option (Int32) :=
  (m_X9_in T p0.toInt64 0 2).bind (fun r1 => ckb r1 (some r1))
set_option maxHeartbeats 4000000 in
set_option maxRecDepth 100000 in
theorem c_X9_isLift (l : Launch) (D : va_G) (cy : Nat → ClassId) (ad : Nat → Nat) (X : va_W) (T : St) (p0 : Int32) (r : (Int32)) (h : m_X9_isLift T p0 = some r) : CT l yX9_isLift (wu yX9_isLift cX9_isLift 1 (some .boolean)) 1 D cy [.int p0] (wR ad cy T ++ X) (some (.int r)) (wR ad cy T ++ X) := by
  refine CT.mk (cc := cX9_isLift) (maxL := 1) (ret := (some .boolean)) (own := RX9) (by decide) rfl rfl (Nat.le_of_ble_eq_true rfl) ?_
  intro p e s m args below meth c ls A Q hA hQ hC hr hk hW hl
  have hx := hC.1
  have hb := hC.2.1
  have hown := hC.2.2.2.1
  have hts := hC.2.2.2.2
  have hl : lv_has ls 1 [(0, .int p0)] := hl
  have k91 := hts _ (wu_in w_13_23)
  unfold m_X9_isLift at h
  refine lv_iload_n hx hb dX9_isLift_0 rfl (lv_at hl 0 rfl) ?_
  refine lv_i2l (v := p0.toInt64) hx hb dX9_isLift_1 rfl ?_
  refine lv_lconst (v := 0) hx hb dX9_isLift_2 (by decide) ?_
  refine lv_ldc2 hx hb hown k91 dX9_isLift_3 ?_
  obtain ⟨r1, hr2, h⟩ := bd_of h
  refine wd_callS1 (As := [.long p0.toInt64, .long 0, .long 2]) hC hW (c_X9_in l D cy ad X T p0.toInt64 0 2 r1 hr2) (va_cwS 3 hts (gu_S w_7_6 w_7_4 w_7_5 w_1_5) rfl rfl rfl hdX9_in ⟨Nat.le_of_ble_eq_true rfl, Nat.le_of_ble_eq_true rfl⟩) rfl hl.1 rfl (Nat.le_of_ble_eq_true rfl) ⟨Nat.zero_le _, Nat.zero_le _⟩ dX9_isLift_6 (fun H locs hW => ?_)
  obtain ⟨hb3, h⟩ := ckb_of h
  obtain rfl := Option.some.inj h
  exact wd_zret hA hQ hC hr hk hW (ckb_nar hb3) dX9_isLift_9
def m_X9_planOf (T : St) (p0 : Int32) (p1 : Int32) (p2 : Int32) : Option (Int32) :=
  ck ((3 * ((3 * p0) + p1)) + p2) 54 (some (T.2.1 9 ((3 * ((3 * p0) + p1)) + p2).toNatClampNeg))
set_option maxHeartbeats 4000000 in
set_option maxRecDepth 100000 in
theorem c_X9_planOf (l : Launch) (D : va_G) (cy : Nat → ClassId) (ad : Nat → Nat) (X : va_W) (T : St) (p0 : Int32) (p1 : Int32) (p2 : Int32) (r : (Int32)) (h : m_X9_planOf T p0 p1 p2 = some r) : CT l yX9_planOf (wu yX9_planOf cX9_planOf 4 (some .int)) 0 D cy [.ref (ad 0), .int p0, .int p1, .int p2] (wR ad cy T ++ X) (some (.int r)) (wR ad cy T ++ X) := by
  refine CT.mk (cc := cX9_planOf) (maxL := 4) (ret := (some .int)) (own := RX9) (by decide) rfl rfl (Nat.le_of_ble_eq_true rfl) ?_
  intro p e s m args below meth c ls A Q hA hQ hC hr hk hW hl
  have hx := hC.1
  have hb := hC.2.1
  have hown := hC.2.2.2.1
  have hts := hC.2.2.2.2
  have hl : lv_has ls 4 [(0, .ref (ad 0)), (1, .int p0), (2, .int p1), (3, .int p2)] := hl
  have f29 := hts _ (wu_in w_5_9)
  have i9 := (fun w h => wu_in (inc_9 w h) : ∀ w ∈ u_ws RX9 TX9 40, w ∈ (wu yX9_planOf cX9_planOf 4 (some .int)))
  unfold m_X9_planOf at h
  refine lv_aload_n hx hb dX9_planOf_0 rfl (lv_at hl 0 rfl) ?_
  refine wd_get hC i9 hW 0 wR_c0 rfl 9 (Nat.le_of_ble_eq_true rfl) f29 rfl rfl dX9_planOf_1 ?_
  refine lv_iconst (v := 3) hx hb dX9_planOf_4 (by decide) ?_
  refine lv_iconst (v := 3) hx hb dX9_planOf_5 (by decide) ?_
  refine lv_iload_n hx hb dX9_planOf_6 rfl (lv_at hl 1 rfl) ?_
  refine lv_imul hx hb dX9_planOf_7 ?_
  refine lv_iload_n hx hb dX9_planOf_8 rfl (lv_at hl 2 rfl) ?_
  refine lv_iadd hx hb dX9_planOf_9 ?_
  refine lv_imul hx hb dX9_planOf_10 ?_
  refine lv_iload_n hx hb dX9_planOf_11 rfl (lv_at hl 3 rfl) ?_
  refine lv_iadd hx hb dX9_planOf_12 ?_
  obtain ⟨hi1, h⟩ := ck_of h
  refine wd_iald hC hW 7 wR_c7 hi1 dX9_planOf_13 ?_
  obtain rfl := Option.some.inj h
  exact wd_iret hA hQ hC hr hk hW dX9_planOf_14
def m_X9_tableOdds_L44 : Nat → St → Int32 → Int32 → Int32 → Int32 → Option (Int32)
  | 0, _, _, _, _, _ => none
  | n + 1, T, x3, x4, x5, x6 =>
    if x5 ≤ x6 then (some 0) else (ck (x4 + x6) 108 (if (T.2.1 7 (x4 + x6).toNatClampNeg) < x3 then (m_X9_tableOdds_L44 n T x3 x4 x5 (x6 + 1)) else (ck ((x4 + x6) - 1) 108 (ck ((x4 + x6) - 1) 108 (ck (x4 + x6) 108 (ck ((x4 + x6) - 1) 108 (ck (x4 + x6) 108 (ck ((x4 + x6) - 1) 108 (ckd ((T.2.1 7 (x4 + x6).toNatClampNeg) - (T.2.1 7 ((x4 + x6) - 1).toNatClampNeg)) (some ((T.2.1 8 ((x4 + x6) - 1).toNatClampNeg) - ((((T.2.1 8 ((x4 + x6) - 1).toNatClampNeg) - (T.2.1 8 (x4 + x6).toNatClampNeg)) * (x3 - (T.2.1 7 ((x4 + x6) - 1).toNatClampNeg))) / ((T.2.1 7 (x4 + x6).toNatClampNeg) - (T.2.1 7 ((x4 + x6) - 1).toNatClampNeg))))))))))))))
theorem m_X9_tableOdds_L44_0 (T : St) (x3 : Int32) (x4 : Int32) (x5 : Int32) (x6 : Int32) : m_X9_tableOdds_L44 0 T x3 x4 x5 x6 = none := rfl
theorem m_X9_tableOdds_L44_s {n : Nat} {T : St} {x3 : Int32} {x4 : Int32} {x5 : Int32} {x6 : Int32} : m_X9_tableOdds_L44 (n + 1) T x3 x4 x5 x6 =
    (if x5 ≤ x6 then (some 0) else (ck (x4 + x6) 108 (if (T.2.1 7 (x4 + x6).toNatClampNeg) < x3 then (m_X9_tableOdds_L44 n T x3 x4 x5 (x6 + 1)) else (ck ((x4 + x6) - 1) 108 (ck ((x4 + x6) - 1) 108 (ck (x4 + x6) 108 (ck ((x4 + x6) - 1) 108 (ck (x4 + x6) 108 (ck ((x4 + x6) - 1) 108 (ckd ((T.2.1 7 (x4 + x6).toNatClampNeg) - (T.2.1 7 ((x4 + x6) - 1).toNatClampNeg)) (some ((T.2.1 8 ((x4 + x6) - 1).toNatClampNeg) - ((((T.2.1 8 ((x4 + x6) - 1).toNatClampNeg) - (T.2.1 8 (x4 + x6).toNatClampNeg)) * (x3 - (T.2.1 7 ((x4 + x6) - 1).toNatClampNeg))) / ((T.2.1 7 (x4 + x6).toNatClampNeg) - (T.2.1 7 ((x4 + x6) - 1).toNatClampNeg))))))))))))))) := rfl
def m_X9_tableOdds (n : Nat) (T : St) (p0 : Int32) (p1 : Int32) (p2 : Int32) : Option (Int32) :=
  ck ((3 * p0) + p1) 18 (ck (6 * ((3 * p0) + p1)) 108 (if (T.2.1 7 (6 * ((3 * p0) + p1)).toNatClampNeg) < p2 then (m_X9_tableOdds_L44 n T p2 (6 * ((3 * p0) + p1)) (T.2.1 6 ((3 * p0) + p1).toNatClampNeg) 1) else (ck (6 * ((3 * p0) + p1)) 108 (some (T.2.1 8 (6 * ((3 * p0) + p1)).toNatClampNeg)))))
set_option maxHeartbeats 4000000 in
set_option maxRecDepth 100000 in
theorem c_X9_tableOdds (l : Launch) (D : va_G) (cy : Nat → ClassId) (ad : Nat → Nat) (X : va_W) (n : Nat) (T : St) (p0 : Int32) (p1 : Int32) (p2 : Int32) (r : (Int32)) (h : m_X9_tableOdds n T p0 p1 p2 = some r) : CT l yX9_tableOdds (wu yX9_tableOdds cX9_tableOdds 9 (some .int)) 0 D cy [.ref (ad 0), .int p0, .int p1, .int p2] (wR ad cy T ++ X) (some (.int r)) (wR ad cy T ++ X) := by
  refine CT.mk (cc := cX9_tableOdds) (maxL := 9) (ret := (some .int)) (own := RX9) (by decide) rfl rfl (Nat.le_of_ble_eq_true rfl) ?_
  intro p e s m args below meth c ls A Q hA hQ hC hr hk hW hl
  have hx := hC.1
  have hb := hC.2.1
  have hown := hC.2.2.2.1
  have hts := hC.2.2.2.2
  have hl : lv_has ls 9 [(0, .ref (ad 0)), (1, .int p0), (2, .int p1), (3, .int p2)] := hl
  have f20 := hts _ (wu_in w_5_6)
  have i9 := (fun w h => wu_in (inc_9 w h) : ∀ w ∈ u_ws RX9 TX9 40, w ∈ (wu yX9_tableOdds cX9_tableOdds 9 (some .int)))
  have f23 := hts _ (wu_in w_5_7)
  have f26 := hts _ (wu_in w_5_8)
  unfold m_X9_tableOdds at h
  refine lv_bipush (v := 6) hx hb dX9_tableOdds_0 (by decide) ?_
  refine lv_iconst (v := 3) hx hb dX9_tableOdds_2 (by decide) ?_
  refine lv_iload_n hx hb dX9_tableOdds_3 rfl (lv_at hl 1 rfl) ?_
  refine lv_imul hx hb dX9_tableOdds_4 ?_
  refine lv_iload_n hx hb dX9_tableOdds_5 rfl (lv_at hl 2 rfl) ?_
  refine lv_iadd hx hb dX9_tableOdds_6 ?_
  refine lv_imul hx hb dX9_tableOdds_7 ?_
  refine lv_istore (lv' := [(4, .int (6 * ((3 * p0) + p1))), (0, .ref (ad 0)), (1, .int p0), (2, .int p1), (3, .int p2)]) hx hb dX9_tableOdds_8 hl (by decide) rfl (fun ls hl => ?_)
  refine lv_aload_n hx hb dX9_tableOdds_10 rfl (lv_at hl 1 rfl) ?_
  refine wd_get hC i9 hW 0 wR_c0 rfl 6 (Nat.le_of_ble_eq_true rfl) f20 rfl rfl dX9_tableOdds_11 ?_
  refine lv_iconst (v := 3) hx hb dX9_tableOdds_14 (by decide) ?_
  refine lv_iload_n hx hb dX9_tableOdds_15 rfl (lv_at hl 2 rfl) ?_
  refine lv_imul hx hb dX9_tableOdds_16 ?_
  refine lv_iload_n hx hb dX9_tableOdds_17 rfl (lv_at hl 3 rfl) ?_
  refine lv_iadd hx hb dX9_tableOdds_18 ?_
  obtain ⟨hi1, h⟩ := ck_of h
  refine wd_iald hC hW 4 wR_c4 hi1 dX9_tableOdds_19 ?_
  refine lv_istore (lv' := [(5, .int (T.2.1 6 ((3 * p0) + p1).toNatClampNeg)), (4, .int (6 * ((3 * p0) + p1))), (0, .ref (ad 0)), (1, .int p0), (2, .int p1), (3, .int p2)]) hx hb dX9_tableOdds_20 hl (by decide) rfl (fun ls hl => ?_)
  refine lv_iload_n hx hb dX9_tableOdds_22 rfl (lv_at hl 5 rfl) ?_
  refine lv_aload_n hx hb dX9_tableOdds_23 rfl (lv_at hl 2 rfl) ?_
  refine wd_get hC i9 hW 0 wR_c0 rfl 7 (Nat.le_of_ble_eq_true rfl) f23 rfl rfl dX9_tableOdds_24 ?_
  refine lv_iload hx hb dX9_tableOdds_27 (lv_at hl 1 rfl) ?_
  obtain ⟨hi2, h⟩ := ck_of h
  refine wd_iald hC hW 5 wR_c5 hi2 dX9_tableOdds_29 ?_
  refine lv_icmp_gt (tgt := 41) hx hb dX9_tableOdds_30 (by decide) (fun c3 => ?_) (fun c3 => ?_)
  · replace h := ite_t h c3
    refine lv_iconst (v := 1) hx hb dX9_tableOdds_41 (by decide) ?_
    refine lv_istore (lv' := [(6, .int 1), (5, .int (T.2.1 6 ((3 * p0) + p1).toNatClampNeg)), (4, .int (6 * ((3 * p0) + p1))), (0, .ref (ad 0)), (1, .int p0), (2, .int p1), (3, .int p2)]) hx hb dX9_tableOdds_42 hl (by decide) rfl (fun ls hl => ?_)
    have hL44 : ∀ (n : Nat) (x3 : Int32) (x4 : Int32) (x5 : Int32) (x6 : Int32)  (H : Heap) (locs : List Loc) (ls : Array Slot), m_X9_tableOdds_L44 n T x3 x4 x5 x6 = some r → Wd D cy A s (wR ad cy T ++ X) H locs → lv_has ls 9 [(0, .ref (ad 0)), (3, .int x3), (4, .int x4), (5, .int x5), (6, .int x6)] → W p l e (RM 0) s m args below meth c H locs 0 0 Q (F0 m 44 ls []) := by
      intro n
      induction n with
      | zero =>
        intro x3 x4 x5 x6  H locs ls h
        exact absurd (h.symm.trans (m_X9_tableOdds_L44_0 ..)) (by simp)
      | succ n ih =>
        intro x3 x4 x5 x6  H locs ls h hW hl
        rw [m_X9_tableOdds_L44_s] at h
        refine lv_iload hx hb dX9_tableOdds_44 (lv_at hl 4 rfl) ?_
        refine lv_iload hx hb dX9_tableOdds_46 (lv_at hl 3 rfl) ?_
        refine lv_icmp_ge (tgt := 134) hx hb dX9_tableOdds_48 (by decide) (fun c4 => ?_) (fun c4 => ?_)
        · replace h := ite_t h c4
          refine lv_iconst (v := 0) hx hb dX9_tableOdds_134 (by decide) ?_
          obtain rfl := Option.some.inj h
          exact wd_iret hA hQ hC hr hk hW dX9_tableOdds_135
        · replace h := ite_f h c4
          refine lv_iload hx hb dX9_tableOdds_51 (lv_at hl 2 rfl) ?_
          refine lv_iload hx hb dX9_tableOdds_53 (lv_at hl 4 rfl) ?_
          refine lv_iadd hx hb dX9_tableOdds_55 ?_
          refine lv_iconst (v := 1) hx hb dX9_tableOdds_56 (by decide) ?_
          refine lv_isub hx hb dX9_tableOdds_57 ?_
          refine lv_istore (lv' := [(7, .int ((x4 + x6) - 1)), (0, .ref (ad 0)), (3, .int x3), (4, .int x4), (5, .int x5), (6, .int x6)]) hx hb dX9_tableOdds_58 hl (by decide) rfl (fun ls hl => ?_)
          refine lv_iload hx hb dX9_tableOdds_60 (lv_at hl 3 rfl) ?_
          refine lv_iload hx hb dX9_tableOdds_62 (lv_at hl 5 rfl) ?_
          refine lv_iadd hx hb dX9_tableOdds_64 ?_
          refine lv_istore (lv' := [(8, .int (x4 + x6)), (7, .int ((x4 + x6) - 1)), (0, .ref (ad 0)), (3, .int x3), (4, .int x4), (5, .int x5), (6, .int x6)]) hx hb dX9_tableOdds_65 hl (by decide) rfl (fun ls hl => ?_)
          refine lv_iload_n hx hb dX9_tableOdds_67 rfl (lv_at hl 3 rfl) ?_
          refine lv_aload_n hx hb dX9_tableOdds_68 rfl (lv_at hl 2 rfl) ?_
          refine wd_get hC i9 hW 0 wR_c0 rfl 7 (Nat.le_of_ble_eq_true rfl) f23 rfl rfl dX9_tableOdds_69 ?_
          refine lv_iload hx hb dX9_tableOdds_72 (lv_at hl 0 rfl) ?_
          obtain ⟨hi5, h⟩ := ck_of h
          refine wd_iald hC hW 5 wR_c5 hi5 dX9_tableOdds_74 ?_
          refine lv_icmp_gt (tgt := 128) hx hb dX9_tableOdds_75 (by decide) (fun c6 => ?_) (fun c6 => ?_)
          · replace h := ite_t h c6
            refine lv_iinc (v := x6 + 1) (lv' := [(6, .int (x6 + 1)), (8, .int (x4 + x6)), (7, .int ((x4 + x6) - 1)), (0, .ref (ad 0)), (3, .int x3), (4, .int x4), (5, .int x5)]) hx hb dX9_tableOdds_128 hl (k := 6) rfl rfl (by decide) rfl (fun ls hl => ?_)
            refine lv_goto (tgt := 44) hx hb dX9_tableOdds_131 (by decide) ?_
            exact ih x3 x4 x5 (x6 + 1) _ _ _ h hW (lv_sub hl [3, 4, 5, 6, 0] rfl)
          · replace h := ite_f h c6
            refine lv_aload_n hx hb dX9_tableOdds_78 rfl (lv_at hl 2 rfl) ?_
            refine wd_get hC i9 hW 0 wR_c0 rfl 8 (Nat.le_of_ble_eq_true rfl) f26 rfl rfl dX9_tableOdds_79 ?_
            refine lv_iload hx hb dX9_tableOdds_82 (lv_at hl 1 rfl) ?_
            obtain ⟨hi7, h⟩ := ck_of h
            refine wd_iald hC hW 6 wR_c6 hi7 dX9_tableOdds_84 ?_
            refine lv_aload_n hx hb dX9_tableOdds_85 rfl (lv_at hl 2 rfl) ?_
            refine wd_get hC i9 hW 0 wR_c0 rfl 8 (Nat.le_of_ble_eq_true rfl) f26 rfl rfl dX9_tableOdds_86 ?_
            refine lv_iload hx hb dX9_tableOdds_89 (lv_at hl 1 rfl) ?_
            obtain ⟨hi8, h⟩ := ck_of h
            refine wd_iald hC hW 6 wR_c6 hi8 dX9_tableOdds_91 ?_
            refine lv_aload_n hx hb dX9_tableOdds_92 rfl (lv_at hl 2 rfl) ?_
            refine wd_get hC i9 hW 0 wR_c0 rfl 8 (Nat.le_of_ble_eq_true rfl) f26 rfl rfl dX9_tableOdds_93 ?_
            refine lv_iload hx hb dX9_tableOdds_96 (lv_at hl 0 rfl) ?_
            obtain ⟨hi9, h⟩ := ck_of h
            refine wd_iald hC hW 6 wR_c6 hi9 dX9_tableOdds_98 ?_
            refine lv_isub hx hb dX9_tableOdds_99 ?_
            refine lv_iload_n hx hb dX9_tableOdds_100 rfl (lv_at hl 3 rfl) ?_
            refine lv_aload_n hx hb dX9_tableOdds_101 rfl (lv_at hl 2 rfl) ?_
            refine wd_get hC i9 hW 0 wR_c0 rfl 7 (Nat.le_of_ble_eq_true rfl) f23 rfl rfl dX9_tableOdds_102 ?_
            refine lv_iload hx hb dX9_tableOdds_105 (lv_at hl 1 rfl) ?_
            obtain ⟨hi10, h⟩ := ck_of h
            refine wd_iald hC hW 5 wR_c5 hi10 dX9_tableOdds_107 ?_
            refine lv_isub hx hb dX9_tableOdds_108 ?_
            refine lv_imul hx hb dX9_tableOdds_109 ?_
            refine lv_aload_n hx hb dX9_tableOdds_110 rfl (lv_at hl 2 rfl) ?_
            refine wd_get hC i9 hW 0 wR_c0 rfl 7 (Nat.le_of_ble_eq_true rfl) f23 rfl rfl dX9_tableOdds_111 ?_
            refine lv_iload hx hb dX9_tableOdds_114 (lv_at hl 0 rfl) ?_
            obtain ⟨hi11, h⟩ := ck_of h
            refine wd_iald hC hW 5 wR_c5 hi11 dX9_tableOdds_116 ?_
            refine lv_aload_n hx hb dX9_tableOdds_117 rfl (lv_at hl 2 rfl) ?_
            refine wd_get hC i9 hW 0 wR_c0 rfl 7 (Nat.le_of_ble_eq_true rfl) f23 rfl rfl dX9_tableOdds_118 ?_
            refine lv_iload hx hb dX9_tableOdds_121 (lv_at hl 1 rfl) ?_
            obtain ⟨hi12, h⟩ := ck_of h
            refine wd_iald hC hW 5 wR_c5 hi12 dX9_tableOdds_123 ?_
            refine lv_isub hx hb dX9_tableOdds_124 ?_
            obtain ⟨hd13, h⟩ := ckd_of h
            refine lv_idiv hx hb dX9_tableOdds_125 hd13 ?_
            refine lv_isub hx hb dX9_tableOdds_126 ?_
            obtain rfl := Option.some.inj h
            exact wd_iret hA hQ hC hr hk hW dX9_tableOdds_127
    exact hL44 n p2 (6 * ((3 * p0) + p1)) (T.2.1 6 ((3 * p0) + p1).toNatClampNeg) 1  _ _ _ h hW (lv_sub hl [3, 6, 2, 1, 0] rfl)
  · replace h := ite_f h c3
    refine lv_aload_n hx hb dX9_tableOdds_33 rfl (lv_at hl 2 rfl) ?_
    refine wd_get hC i9 hW 0 wR_c0 rfl 8 (Nat.le_of_ble_eq_true rfl) f26 rfl rfl dX9_tableOdds_34 ?_
    refine lv_iload hx hb dX9_tableOdds_37 (lv_at hl 1 rfl) ?_
    obtain ⟨hi14, h⟩ := ck_of h
    refine wd_iald hC hW 6 wR_c6 hi14 dX9_tableOdds_39 ?_
    obtain rfl := Option.some.inj h
    exact wd_iret hA hQ hC hr hk hW dX9_tableOdds_40
def m_X9_oddsOf (n : Nat) (T : St) (p0 : Int32) (p1 : Int32) (p2 : Int32) (p3 : Int32) : Option (Int32) :=
  (m_X9_tableOdds n T p0 p1 p2).bind (fun r1 => some (mx 0 (r1 - ((T.1 10) * p3))))
set_option maxHeartbeats 4000000 in
set_option maxRecDepth 100000 in
theorem c_X9_oddsOf (l : Launch) (D : va_G) (cy : Nat → ClassId) (ad : Nat → Nat) (X : va_W) (n : Nat) (T : St) (p0 : Int32) (p1 : Int32) (p2 : Int32) (p3 : Int32) (r : (Int32)) (h : m_X9_oddsOf n T p0 p1 p2 p3 = some r) : CT l yX9_oddsOf (wu yX9_oddsOf cX9_oddsOf 5 (some .int)) 1 D cy [.ref (ad 0), .int p0, .int p1, .int p2, .int p3] (wR ad cy T ++ X) (some (.int r)) (wR ad cy T ++ X) := by
  refine CT.mk (cc := cX9_oddsOf) (maxL := 5) (ret := (some .int)) (own := RX9) (by decide) rfl rfl (Nat.le_of_ble_eq_true rfl) ?_
  intro p e s m args below meth c ls A Q hA hQ hC hr hk hW hl
  have hx := hC.1
  have hb := hC.2.1
  have hown := hC.2.2.2.1
  have hts := hC.2.2.2.2
  have hl : lv_has ls 5 [(0, .ref (ad 0)), (1, .int p0), (2, .int p1), (3, .int p2), (4, .int p3)] := hl
  have f97 := hts _ (wu_in w_14_19)
  have i9 := (fun w h => wu_in (inc_9 w h) : ∀ w ∈ u_ws RX9 TX9 40, w ∈ (wu yX9_oddsOf cX9_oddsOf 5 (some .int)))
  have ml100 := hts _ (wu_in w_16_0)
  have msmax := hts _ (wu_in w_15_13)
  have mi := hts _ (wu_in w_15_14)
  have mcmax := hts _ (wu_in w_15_15)
  unfold m_X9_oddsOf at h
  refine lv_iconst (v := 0) hx hb dX9_oddsOf_0 (by decide) ?_
  refine lv_aload_n hx hb dX9_oddsOf_1 rfl (lv_at hl 0 rfl) ?_
  refine lv_iload_n hx hb dX9_oddsOf_2 rfl (lv_at hl 1 rfl) ?_
  refine lv_iload_n hx hb dX9_oddsOf_3 rfl (lv_at hl 2 rfl) ?_
  refine lv_iload_n hx hb dX9_oddsOf_4 rfl (lv_at hl 3 rfl) ?_
  obtain ⟨r1, hr2, h⟩ := bd_of h
  refine wd_callV1 (As := [.int p0, .int p1, .int p2]) hC hW 0 wR_c0 rfl (c_X9_tableOdds l D cy ad X n T p0 p1 p2 r1 hr2) (cwV 3 hts (gu_V w_16_4 w_16_1 w_16_2 w_16_3 w_1_5) rfl rfl rfl hdX9_tableOdds ⟨Nat.le_of_ble_eq_true rfl, Nat.le_of_ble_eq_true rfl⟩) rfl hl.1 rfl (Nat.le_of_ble_eq_true rfl) ⟨Nat.zero_le _, Nat.zero_le _⟩ dX9_oddsOf_5 (fun H locs hW => ?_)
  refine lv_aload_n hx hb dX9_oddsOf_8 rfl (lv_at hl 0 rfl) ?_
  refine wd_get hC i9 hW 0 wR_c0 rfl 10 (Nat.le_of_ble_eq_true rfl) f97 rfl rfl dX9_oddsOf_9 ?_
  refine lv_iload hx hb dX9_oddsOf_12 (lv_at hl 4 rfl) ?_
  refine lv_imul hx hb dX9_oddsOf_14 ?_
  refine lv_isub hx hb dX9_oddsOf_15 ?_
  refine wd_max hC hl.1 ml100 msmax mi mcmax (Nat.le_of_ble_eq_true rfl) (Nat.le_of_ble_eq_true rfl) (Nat.zero_le _) (Nat.zero_le _) dX9_oddsOf_16 ?_
  obtain rfl := Option.some.inj h
  exact wd_iret hA hQ hC hr hk hW dX9_oddsOf_19
def m_X9_of (T : St) (p0 : Int32) (p1 : Int32) : Option (Int32) :=
  ck ((3 + (10 * p0)) + p1) 63 (some (T.2.1 11 ((3 + (10 * p0)) + p1).toNatClampNeg))
set_option maxHeartbeats 4000000 in
set_option maxRecDepth 100000 in
theorem c_X9_of (l : Launch) (D : va_G) (cy : Nat → ClassId) (ad : Nat → Nat) (X : va_W) (T : St) (p0 : Int32) (p1 : Int32) (r : (Int32)) (h : m_X9_of T p0 p1 = some r) : CT l yX9_of (wu yX9_of cX9_of 3 (some .int)) 0 D cy [.ref (ad 0), .int p0, .int p1] (wR ad cy T ++ X) (some (.int r)) (wR ad cy T ++ X) := by
  refine CT.mk (cc := cX9_of) (maxL := 3) (ret := (some .int)) (own := RX9) (by decide) rfl rfl (Nat.le_of_ble_eq_true rfl) ?_
  intro p e s m args below meth c ls A Q hA hQ hC hr hk hW hl
  have hx := hC.1
  have hb := hC.2.1
  have hown := hC.2.2.2.1
  have hts := hC.2.2.2.2
  have hl : lv_has ls 3 [(0, .ref (ad 0)), (1, .int p0), (2, .int p1)] := hl
  have f32 := hts _ (wu_in w_5_10)
  have i9 := (fun w h => wu_in (inc_9 w h) : ∀ w ∈ u_ws RX9 TX9 40, w ∈ (wu yX9_of cX9_of 3 (some .int)))
  unfold m_X9_of at h
  refine lv_aload_n hx hb dX9_of_0 rfl (lv_at hl 0 rfl) ?_
  refine wd_get hC i9 hW 0 wR_c0 rfl 11 (Nat.le_of_ble_eq_true rfl) f32 rfl rfl dX9_of_1 ?_
  refine lv_iconst (v := 3) hx hb dX9_of_4 (by decide) ?_
  refine lv_bipush (v := 10) hx hb dX9_of_5 (by decide) ?_
  refine lv_iload_n hx hb dX9_of_7 rfl (lv_at hl 1 rfl) ?_
  refine lv_imul hx hb dX9_of_8 ?_
  refine lv_iadd hx hb dX9_of_9 ?_
  refine lv_iload_n hx hb dX9_of_10 rfl (lv_at hl 2 rfl) ?_
  refine lv_iadd hx hb dX9_of_11 ?_
  obtain ⟨hi1, h⟩ := ck_of h
  refine wd_iald hC hW 8 wR_c8 hi1 dX9_of_12 ?_
  obtain rfl := Option.some.inj h
  exact wd_iret hA hQ hC hr hk hW dX9_of_13
def m_X9_sets (T : St) (p0 : Int32) (p1 : Int32) (p2 : Int32) : Option (St) :=
  ck ((3 + (10 * p0)) + p1) 63 (nm (sA T 11 ((3 + (10 * p0)) + p1).toNatClampNeg p2) (fun T2 => some T2))
set_option maxHeartbeats 4000000 in
set_option maxRecDepth 100000 in
theorem c_X9_sets (l : Launch) (D : va_G) (cy : Nat → ClassId) (ad : Nat → Nat) (X : va_W) (T : St) (p0 : Int32) (p1 : Int32) (p2 : Int32) (r : (St)) (h : m_X9_sets T p0 p1 p2 = some r) : CT l yX9_sets (wu yX9_sets cX9_sets 4 none) 0 D cy [.ref (ad 0), .int p0, .int p1, .int p2] (wR ad cy T ++ X) (none) (wR ad cy r ++ X) := by
  refine CT.mk (cc := cX9_sets) (maxL := 4) (ret := none) (own := RX9) (by decide) rfl rfl (Nat.le_of_ble_eq_true rfl) ?_
  intro p e s m args below meth c ls A Q hA hQ hC hr hk hW hl
  have hx := hC.1
  have hb := hC.2.1
  have hown := hC.2.2.2.1
  have hts := hC.2.2.2.2
  have hl : lv_has ls 4 [(0, .ref (ad 0)), (1, .int p0), (2, .int p1), (3, .int p2)] := hl
  have f32 := hts _ (wu_in w_5_10)
  have i9 := (fun w h => wu_in (inc_9 w h) : ∀ w ∈ u_ws RX9 TX9 40, w ∈ (wu yX9_sets cX9_sets 4 none))
  unfold m_X9_sets at h
  refine lv_aload_n hx hb dX9_sets_0 rfl (lv_at hl 0 rfl) ?_
  refine wd_get hC i9 hW 0 wR_c0 rfl 11 (Nat.le_of_ble_eq_true rfl) f32 rfl rfl dX9_sets_1 ?_
  refine lv_iconst (v := 3) hx hb dX9_sets_4 (by decide) ?_
  refine lv_bipush (v := 10) hx hb dX9_sets_5 (by decide) ?_
  refine lv_iload_n hx hb dX9_sets_7 rfl (lv_at hl 1 rfl) ?_
  refine lv_imul hx hb dX9_sets_8 ?_
  refine lv_iadd hx hb dX9_sets_9 ?_
  refine lv_iload_n hx hb dX9_sets_10 rfl (lv_at hl 2 rfl) ?_
  refine lv_iadd hx hb dX9_sets_11 ?_
  refine lv_iload_n hx hb dX9_sets_12 rfl (lv_at hl 3 rfl) ?_
  obtain ⟨hi1, h⟩ := ck_of h
  refine wd_iast hC hW 8 wR_c8 hi1 wR_t8 dX9_sets_13 (fun H locs hW => ?_)
  obtain ⟨T2, e3, h⟩ := nm_of h
  replace hW := wq_T e3 hW
  obtain rfl := Option.some.inj h
  exact wd_vret hA hQ hC hr hk hW dX9_sets_14
def m_X9_isOver (T : St) : Option (Int32) :=
  ck 0 63 (if (T.2.1 11 ((0 : Int32).toNatClampNeg)) = 3 then (some 1) else (some 0))
set_option maxHeartbeats 4000000 in
set_option maxRecDepth 100000 in
theorem c_X9_isOver (l : Launch) (D : va_G) (cy : Nat → ClassId) (ad : Nat → Nat) (X : va_W) (T : St) (r : (Int32)) (h : m_X9_isOver T = some r) : CT l yX9_isOver (wu yX9_isOver cX9_isOver 1 (some .boolean)) 0 D cy [.ref (ad 0)] (wR ad cy T ++ X) (some (.int r)) (wR ad cy T ++ X) := by
  refine CT.mk (cc := cX9_isOver) (maxL := 1) (ret := (some .boolean)) (own := RX9) (by decide) rfl rfl (Nat.le_of_ble_eq_true rfl) ?_
  intro p e s m args below meth c ls A Q hA hQ hC hr hk hW hl
  have hx := hC.1
  have hb := hC.2.1
  have hown := hC.2.2.2.1
  have hts := hC.2.2.2.2
  have hl : lv_has ls 1 [(0, .ref (ad 0))] := hl
  have f32 := hts _ (wu_in w_5_10)
  have i9 := (fun w h => wu_in (inc_9 w h) : ∀ w ∈ u_ws RX9 TX9 40, w ∈ (wu yX9_isOver cX9_isOver 1 (some .boolean)))
  unfold m_X9_isOver at h
  refine lv_aload_n hx hb dX9_isOver_0 rfl (lv_at hl 0 rfl) ?_
  refine wd_get hC i9 hW 0 wR_c0 rfl 11 (Nat.le_of_ble_eq_true rfl) f32 rfl rfl dX9_isOver_1 ?_
  refine lv_iconst (v := 0) hx hb dX9_isOver_4 (by decide) ?_
  obtain ⟨hi1, h⟩ := ck_of h
  refine wd_iald hC hW 8 wR_c8 hi1 dX9_isOver_5 ?_
  refine lv_iconst (v := 3) hx hb dX9_isOver_6 (by decide) ?_
  refine lv_icmp_ne (tgt := 14) hx hb dX9_isOver_7 (by decide) (fun c2 => ?_) (fun c2 => ?_)
  · replace h := ite_f h c2
    refine lv_iconst (v := 0) hx hb dX9_isOver_14 (by decide) ?_
    obtain rfl := Option.some.inj h
    exact wd_zret hA hQ hC hr hk hW rfl dX9_isOver_15
  · replace h := ite_t h c2
    refine lv_iconst (v := 1) hx hb dX9_isOver_10 (by decide) ?_
    refine lv_goto (tgt := 15) hx hb dX9_isOver_11 (by decide) ?_
    obtain rfl := Option.some.inj h
    exact wd_zret hA hQ hC hr hk hW rfl dX9_isOver_15
def m_X9_isOut (T : St) (p0 : Int32) : Option (Int32) :=
  (m_X9_of T p0 6).bind (fun r1 => if r1 = 1 then (some 1) else (some 0))
set_option maxHeartbeats 4000000 in
set_option maxRecDepth 100000 in
theorem c_X9_isOut (l : Launch) (D : va_G) (cy : Nat → ClassId) (ad : Nat → Nat) (X : va_W) (T : St) (p0 : Int32) (r : (Int32)) (h : m_X9_isOut T p0 = some r) : CT l yX9_isOut (wu yX9_isOut cX9_isOut 2 (some .boolean)) 1 D cy [.ref (ad 0), .int p0] (wR ad cy T ++ X) (some (.int r)) (wR ad cy T ++ X) := by
  refine CT.mk (cc := cX9_isOut) (maxL := 2) (ret := (some .boolean)) (own := RX9) (by decide) rfl rfl (Nat.le_of_ble_eq_true rfl) ?_
  intro p e s m args below meth c ls A Q hA hQ hC hr hk hW hl
  have hx := hC.1
  have hb := hC.2.1
  have hown := hC.2.2.2.1
  have hts := hC.2.2.2.2
  have hl : lv_has ls 2 [(0, .ref (ad 0)), (1, .int p0)] := hl
  unfold m_X9_isOut at h
  refine lv_aload_n hx hb dX9_isOut_0 rfl (lv_at hl 0 rfl) ?_
  refine lv_iload_n hx hb dX9_isOut_1 rfl (lv_at hl 1 rfl) ?_
  refine lv_bipush (v := 6) hx hb dX9_isOut_2 (by decide) ?_
  obtain ⟨r1, hr2, h⟩ := bd_of h
  refine wd_callV1 (As := [.int p0, .int 6]) hC hW 0 wR_c0 rfl (c_X9_of l D cy ad X T p0 6 r1 hr2) (cwV 2 hts (gu_V w_12_0 w_11_21 w_11_22 w_11_23 w_1_5) rfl rfl rfl hdX9_of ⟨Nat.le_of_ble_eq_true rfl, Nat.le_of_ble_eq_true rfl⟩) rfl hl.1 rfl (Nat.le_of_ble_eq_true rfl) ⟨Nat.zero_le _, Nat.zero_le _⟩ dX9_isOut_4 (fun H locs hW => ?_)
  refine lv_iconst (v := 1) hx hb dX9_isOut_7 (by decide) ?_
  refine lv_icmp_ne (tgt := 15) hx hb dX9_isOut_8 (by decide) (fun c3 => ?_) (fun c3 => ?_)
  · replace h := ite_f h c3
    refine lv_iconst (v := 0) hx hb dX9_isOut_15 (by decide) ?_
    obtain rfl := Option.some.inj h
    exact wd_zret hA hQ hC hr hk hW rfl dX9_isOut_16
  · replace h := ite_t h c3
    refine lv_iconst (v := 1) hx hb dX9_isOut_11 (by decide) ?_
    refine lv_goto (tgt := 16) hx hb dX9_isOut_12 (by decide) ?_
    obtain rfl := Option.some.inj h
    exact wd_zret hA hQ hC hr hk hW rfl dX9_isOut_16
def m_X9_changesAtFirst (T : St) : Option (Int32) :=
  ck 1 63 (if (T.2.1 11 ((1 : Int32).toNatClampNeg)) = 0 then (some 1) else (ck 1 63 (if (T.2.1 11 ((1 : Int32).toNatClampNeg)) = 2 then (ck 0 63 (if (T.2.1 11 ((0 : Int32).toNatClampNeg)) = 2 then (some 2) else (some 0))) else (some 0))))
set_option maxHeartbeats 4000000 in
set_option maxRecDepth 100000 in
theorem c_X9_changesAtFirst (l : Launch) (D : va_G) (cy : Nat → ClassId) (ad : Nat → Nat) (X : va_W) (T : St) (r : (Int32)) (h : m_X9_changesAtFirst T = some r) : CT l yX9_changesAtFirst (wu yX9_changesAtFirst cX9_changesAtFirst 1 (some .int)) 0 D cy [.ref (ad 0)] (wR ad cy T ++ X) (some (.int r)) (wR ad cy T ++ X) := by
  refine CT.mk (cc := cX9_changesAtFirst) (maxL := 1) (ret := (some .int)) (own := RX9) (by decide) rfl rfl (Nat.le_of_ble_eq_true rfl) ?_
  intro p e s m args below meth c ls A Q hA hQ hC hr hk hW hl
  have hx := hC.1
  have hb := hC.2.1
  have hown := hC.2.2.2.1
  have hts := hC.2.2.2.2
  have hl : lv_has ls 1 [(0, .ref (ad 0))] := hl
  have f32 := hts _ (wu_in w_5_10)
  have i9 := (fun w h => wu_in (inc_9 w h) : ∀ w ∈ u_ws RX9 TX9 40, w ∈ (wu yX9_changesAtFirst cX9_changesAtFirst 1 (some .int)))
  unfold m_X9_changesAtFirst at h
  refine lv_aload_n hx hb dX9_changesAtFirst_0 rfl (lv_at hl 0 rfl) ?_
  refine wd_get hC i9 hW 0 wR_c0 rfl 11 (Nat.le_of_ble_eq_true rfl) f32 rfl rfl dX9_changesAtFirst_1 ?_
  refine lv_iconst (v := 1) hx hb dX9_changesAtFirst_4 (by decide) ?_
  obtain ⟨hi1, h⟩ := ck_of h
  refine wd_iald hC hW 8 wR_c8 hi1 dX9_changesAtFirst_5 ?_
  refine lv_if_ne (tgt := 13) hx hb dX9_changesAtFirst_6 (by decide) (fun c2 => ?_) (fun c2 => ?_)
  · replace h := ite_f h c2
    refine lv_aload_n hx hb dX9_changesAtFirst_13 rfl (lv_at hl 0 rfl) ?_
    refine wd_get hC i9 hW 0 wR_c0 rfl 11 (Nat.le_of_ble_eq_true rfl) f32 rfl rfl dX9_changesAtFirst_14 ?_
    refine lv_iconst (v := 1) hx hb dX9_changesAtFirst_17 (by decide) ?_
    obtain ⟨hi3, h⟩ := ck_of h
    refine wd_iald hC hW 8 wR_c8 hi3 dX9_changesAtFirst_18 ?_
    refine lv_iconst (v := 2) hx hb dX9_changesAtFirst_19 (by decide) ?_
    refine lv_icmp_ne (tgt := 37) hx hb dX9_changesAtFirst_20 (by decide) (fun c4 => ?_) (fun c4 => ?_)
    · replace h := ite_f h c4
      refine lv_iconst (v := 0) hx hb dX9_changesAtFirst_37 (by decide) ?_
      obtain rfl := Option.some.inj h
      exact wd_iret hA hQ hC hr hk hW dX9_changesAtFirst_38
    · replace h := ite_t h c4
      refine lv_aload_n hx hb dX9_changesAtFirst_23 rfl (lv_at hl 0 rfl) ?_
      refine wd_get hC i9 hW 0 wR_c0 rfl 11 (Nat.le_of_ble_eq_true rfl) f32 rfl rfl dX9_changesAtFirst_24 ?_
      refine lv_iconst (v := 0) hx hb dX9_changesAtFirst_27 (by decide) ?_
      obtain ⟨hi5, h⟩ := ck_of h
      refine wd_iald hC hW 8 wR_c8 hi5 dX9_changesAtFirst_28 ?_
      refine lv_iconst (v := 2) hx hb dX9_changesAtFirst_29 (by decide) ?_
      refine lv_icmp_ne (tgt := 37) hx hb dX9_changesAtFirst_30 (by decide) (fun c6 => ?_) (fun c6 => ?_)
      · replace h := ite_f h c6
        refine lv_iconst (v := 0) hx hb dX9_changesAtFirst_37 (by decide) ?_
        obtain rfl := Option.some.inj h
        exact wd_iret hA hQ hC hr hk hW dX9_changesAtFirst_38
      · replace h := ite_t h c6
        refine lv_iconst (v := 2) hx hb dX9_changesAtFirst_33 (by decide) ?_
        refine lv_goto (tgt := 38) hx hb dX9_changesAtFirst_34 (by decide) ?_
        obtain rfl := Option.some.inj h
        exact wd_iret hA hQ hC hr hk hW dX9_changesAtFirst_38
  · replace h := ite_t h c2
    refine lv_iconst (v := 1) hx hb dX9_changesAtFirst_9 (by decide) ?_
    refine lv_goto (tgt := 38) hx hb dX9_changesAtFirst_10 (by decide) ?_
    obtain rfl := Option.some.inj h
    exact wd_iret hA hQ hC hr hk hW dX9_changesAtFirst_38
def m_X9_roundBegins_L9 : Nat → St → Int32 → Option (St)
  | 0, _, _ => none
  | n + 1, T, x1 =>
    if (T.1 3) ≤ x1 then (some T) else ((m_X9_sets T x1 1 0).bind (fun r7 => (m_X9_isOver r7).bind (fun r9 => ((if r9 = 0 then ((m_X9_changesAtFirst r7).bind (fun r16 => some r16)) else (some 0) : Option (Int32))).bind (fun q12 => (m_X9_sets r7 x1 5 q12).bind (fun r14 => m_X9_roundBegins_L9 n r14 (x1 + 1))))))
theorem m_X9_roundBegins_L9_0 (T : St) (x1 : Int32) : m_X9_roundBegins_L9 0 T x1 = none := rfl
theorem m_X9_roundBegins_L9_s {n : Nat} {T : St} {x1 : Int32} : m_X9_roundBegins_L9 (n + 1) T x1 =
    (if (T.1 3) ≤ x1 then (some T) else ((m_X9_sets T x1 1 0).bind (fun r7 => (m_X9_isOver r7).bind (fun r9 => ((if r9 = 0 then ((m_X9_changesAtFirst r7).bind (fun r16 => some r16)) else (some 0) : Option (Int32))).bind (fun q12 => (m_X9_sets r7 x1 5 q12).bind (fun r14 => m_X9_roundBegins_L9 n r14 (x1 + 1))))))) := rfl
def m_X9_roundBegins (n : Nat) (T : St) : Option (St) :=
  ck 2 63 (nm (sA T 11 ((2 : Int32).toNatClampNeg) 0) (fun T2 => (m_X9_roundBegins_L9 n T2 0).bind (fun q4 => some q4)))
set_option maxHeartbeats 4000000 in
set_option maxRecDepth 100000 in
theorem c_X9_roundBegins (l : Launch) (D : va_G) (cy : Nat → ClassId) (ad : Nat → Nat) (X : va_W) (n : Nat) (T : St) (r : (St)) (h : m_X9_roundBegins n T = some r) : CT l yX9_roundBegins (wu yX9_roundBegins cX9_roundBegins 2 none) 1 D cy [.ref (ad 0)] (wR ad cy T ++ X) (none) (wR ad cy r ++ X) := by
  refine CT.mk (cc := cX9_roundBegins) (maxL := 2) (ret := none) (own := RX9) (by decide) rfl rfl (Nat.le_of_ble_eq_true rfl) ?_
  intro p e s m args below meth c ls A Q hA hQ hC hr hk hW hl
  have hx := hC.1
  have hb := hC.2.1
  have hown := hC.2.2.2.1
  have hts := hC.2.2.2.2
  have hl : lv_has ls 2 [(0, .ref (ad 0))] := hl
  have f32 := hts _ (wu_in w_5_10)
  have i9 := (fun w h => wu_in (inc_9 w h) : ∀ w ∈ u_ws RX9 TX9 40, w ∈ (wu yX9_roundBegins cX9_roundBegins 2 none))
  have f84 := hts _ (wu_in w_9_13)
  unfold m_X9_roundBegins at h
  refine lv_aload_n hx hb dX9_roundBegins_0 rfl (lv_at hl 0 rfl) ?_
  refine wd_get hC i9 hW 0 wR_c0 rfl 11 (Nat.le_of_ble_eq_true rfl) f32 rfl rfl dX9_roundBegins_1 ?_
  refine lv_iconst (v := 2) hx hb dX9_roundBegins_4 (by decide) ?_
  refine lv_iconst (v := 0) hx hb dX9_roundBegins_5 (by decide) ?_
  obtain ⟨hi1, h⟩ := ck_of h
  refine wd_iast hC hW 8 wR_c8 hi1 wR_t8 dX9_roundBegins_6 (fun H locs hW => ?_)
  obtain ⟨T2, e3, h⟩ := nm_of h
  replace hW := wq_T e3 hW
  refine lv_iconst (v := 0) hx hb dX9_roundBegins_7 (by decide) ?_
  refine lv_istore_n (lv' := [(1, .int 0), (0, .ref (ad 0))]) hx hb dX9_roundBegins_8 rfl hl (by decide) rfl (fun ls hl => ?_)
  have hL9 : ∀ (n : Nat) (T : St) (x1 : Int32)  (H : Heap) (locs : List Loc) (ls : Array Slot) (r : (St)), m_X9_roundBegins_L9 n T x1 = some r → Wd D cy A s (wR ad cy T ++ X) H locs → lv_has ls 2 [(0, .ref (ad 0)), (1, .int x1)] → (∀ (H : Heap) (locs : List Loc) (ls : Array Slot), Wd D cy A s (wR ad cy r ++ X) H locs → lv_has ls 2 [(0, .ref (ad 0))] → W p l e (RM 1) s m args below meth c H locs 0 0 Q (F0 m 51 ls [])) → W p l e (RM 1) s m args below meth c H locs 0 0 Q (F0 m 9 ls []) := by
    intro n
    induction n with
    | zero =>
      intro T x1  H locs ls r h
      exact absurd (h.symm.trans (m_X9_roundBegins_L9_0 ..)) (by simp)
    | succ n ih =>
      intro T x1  H locs ls r h hW hl kk
      rw [m_X9_roundBegins_L9_s] at h
      refine lv_iload_n hx hb dX9_roundBegins_9 rfl (lv_at hl 1 rfl) ?_
      refine lv_aload_n hx hb dX9_roundBegins_10 rfl (lv_at hl 0 rfl) ?_
      refine wd_get hC i9 hW 0 wR_c0 rfl 3 (Nat.le_of_ble_eq_true rfl) f84 rfl rfl dX9_roundBegins_11 ?_
      refine lv_icmp_ge (tgt := 51) hx hb dX9_roundBegins_14 (by decide) (fun c6 => ?_) (fun c6 => ?_)
      · replace h := ite_t h c6
        obtain rfl := Option.some.inj h
        exact kk _ _ _ hW (lv_sub hl [0] rfl)
      · replace h := ite_f h c6
        refine lv_aload_n hx hb dX9_roundBegins_17 rfl (lv_at hl 0 rfl) ?_
        refine lv_iload_n hx hb dX9_roundBegins_18 rfl (lv_at hl 1 rfl) ?_
        refine lv_iconst (v := 1) hx hb dX9_roundBegins_19 (by decide) ?_
        refine lv_iconst (v := 0) hx hb dX9_roundBegins_20 (by decide) ?_
        obtain ⟨r7, hr8, h⟩ := bd_of h
        refine wd_callV0 (As := [.int x1, .int 1, .int 0]) hC hW 0 wR_c0 rfl (c_X9_sets l D cy ad X T x1 1 0 r7 hr8) (cwV 3 hts (gu_V w_12_8 w_12_5 w_12_6 w_12_7 w_1_5) rfl rfl rfl hdX9_sets ⟨Nat.le_of_ble_eq_true rfl, Nat.le_of_ble_eq_true rfl⟩) rfl hl.1 rfl (Nat.le_of_ble_eq_true rfl) ⟨Nat.zero_le _, Nat.zero_le _⟩ dX9_roundBegins_21 (fun H locs hW => ?_)
        refine lv_aload_n hx hb dX9_roundBegins_24 rfl (lv_at hl 0 rfl) ?_
        refine lv_iload_n hx hb dX9_roundBegins_25 rfl (lv_at hl 1 rfl) ?_
        refine lv_iconst (v := 5) hx hb dX9_roundBegins_26 (by decide) ?_
        refine lv_aload_n hx hb dX9_roundBegins_27 rfl (lv_at hl 0 rfl) ?_
        obtain ⟨r9, hr10, h⟩ := bd_of h
        refine wd_callV1 (As := []) hC hW 0 wR_c0 rfl (c_X9_isOver l D cy ad X r7 r9 hr10) (cwV 0 hts (gu_V w_11_16 w_11_13 w_11_14 w_11_15 w_1_5) rfl rfl rfl hdX9_isOver ⟨Nat.le_of_ble_eq_true rfl, Nat.le_of_ble_eq_true rfl⟩) rfl hl.1 rfl (Nat.le_of_ble_eq_true rfl) ⟨Nat.zero_le _, Nat.zero_le _⟩ dX9_roundBegins_28 (fun H locs hW => ?_)
        obtain ⟨q12, hq13, h⟩ := bd_of h
        have hJ42 : ∀ (H : Heap) (locs : List Loc) (ls : Array Slot), Wd D cy A s (wR ad cy r7 ++ X) H locs → lv_has ls 2 [(0, .ref (ad 0)), (1, .int x1)] → W p l e (RM 1) s m args below meth c H locs 0 0 Q (F0 m 42 ls [.int q12, .int 5, .int x1, .ref (ad 0)]) := by
          intro H locs ls hW hl
          obtain ⟨r14, hr15, h⟩ := bd_of h
          refine wd_callV0 (As := [.int x1, .int 5, .int q12]) hC hW 0 wR_c0 rfl (c_X9_sets l D cy ad X r7 x1 5 q12 r14 hr15) (cwV 3 hts (gu_V w_12_8 w_12_5 w_12_6 w_12_7 w_1_5) rfl rfl rfl hdX9_sets ⟨Nat.le_of_ble_eq_true rfl, Nat.le_of_ble_eq_true rfl⟩) rfl hl.1 rfl (Nat.le_of_ble_eq_true rfl) ⟨Nat.zero_le _, Nat.zero_le _⟩ dX9_roundBegins_42 (fun H locs hW => ?_)
          refine lv_iinc (v := x1 + 1) (lv' := [(1, .int (x1 + 1)), (0, .ref (ad 0))]) hx hb dX9_roundBegins_45 hl (k := 1) rfl rfl (by decide) rfl (fun ls hl => ?_)
          refine lv_goto (tgt := 9) hx hb dX9_roundBegins_48 (by decide) ?_
          exact ih r14 (x1 + 1) _ _ _ r h hW (lv_sub hl [1, 0] rfl) kk
        replace h := hq13
        refine lv_if_eq (tgt := 38) hx hb dX9_roundBegins_31 (by decide) (fun c11 => ?_) (fun c11 => ?_)
        · replace h := ite_t h c11
          refine lv_aload_n hx hb dX9_roundBegins_38 rfl (lv_at hl 0 rfl) ?_
          obtain ⟨r16, hr17, h⟩ := bd_of h
          refine wd_callV1 (As := []) hC hW 0 wR_c0 rfl (c_X9_changesAtFirst l D cy ad X r7 r16 hr17) (cwV 0 hts (gu_V w_12_16 w_12_13 w_12_14 w_12_15 w_1_5) rfl rfl rfl hdX9_changesAtFirst ⟨Nat.le_of_ble_eq_true rfl, Nat.le_of_ble_eq_true rfl⟩) rfl hl.1 rfl (Nat.le_of_ble_eq_true rfl) ⟨Nat.zero_le _, Nat.zero_le _⟩ dX9_roundBegins_39 (fun H locs hW => ?_)
          obtain rfl := Option.some.inj h
          exact hJ42 _ _ _ hW (lv_sub hl [0, 1] rfl)
        · replace h := ite_f h c11
          refine lv_iconst (v := 0) hx hb dX9_roundBegins_34 (by decide) ?_
          refine lv_goto (tgt := 42) hx hb dX9_roundBegins_35 (by decide) ?_
          obtain rfl := Option.some.inj h
          exact hJ42 _ _ _ hW (lv_sub hl [0, 1] rfl)
  obtain ⟨q4, hq5, h⟩ := bd_of h
  refine hL9 n T2 0  _ _ _ q4 hq5 hW (lv_sub hl [1, 0] rfl) (fun H locs ls hW hl => ?_)
  obtain rfl := Option.some.inj h
  exact wd_vret hA hQ hC hr hk hW dX9_roundBegins_51
def m_X9_liftBegins_L9 : Nat → St → Int32 → Option (St)
  | 0, _, _ => none
  | n + 1, T, x1 =>
    if (T.1 3) ≤ x1 then (some T) else ((m_X9_isOver T).bind (fun r7 => ((if r7 = 0 then ((m_X9_isOut T x1).bind (fun r20 => if r20 = 0 then (ck 0 63 ((m_X9_planOf T x1 (T.2.1 11 ((0 : Int32).toNatClampNeg)) 0).bind (fun r24 => some r24))) else (some 0))) else (some 0) : Option (Int32))).bind (fun q10 => (m_X9_sets T x1 0 q10).bind (fun r12 => (m_X9_sets r12 x1 2 0).bind (fun r14 => (m_X9_sets r14 x1 3 0).bind (fun r16 => (m_X9_sets r16 x1 4 0).bind (fun r18 => m_X9_liftBegins_L9 n r18 (x1 + 1))))))))
theorem m_X9_liftBegins_L9_0 (T : St) (x1 : Int32) : m_X9_liftBegins_L9 0 T x1 = none := rfl
theorem m_X9_liftBegins_L9_s {n : Nat} {T : St} {x1 : Int32} : m_X9_liftBegins_L9 (n + 1) T x1 =
    (if (T.1 3) ≤ x1 then (some T) else ((m_X9_isOver T).bind (fun r7 => ((if r7 = 0 then ((m_X9_isOut T x1).bind (fun r20 => if r20 = 0 then (ck 0 63 ((m_X9_planOf T x1 (T.2.1 11 ((0 : Int32).toNatClampNeg)) 0).bind (fun r24 => some r24))) else (some 0))) else (some 0) : Option (Int32))).bind (fun q10 => (m_X9_sets T x1 0 q10).bind (fun r12 => (m_X9_sets r12 x1 2 0).bind (fun r14 => (m_X9_sets r14 x1 3 0).bind (fun r16 => (m_X9_sets r16 x1 4 0).bind (fun r18 => m_X9_liftBegins_L9 n r18 (x1 + 1))))))))) := rfl
def m_X9_liftBegins (n : Nat) (T : St) : Option (St) :=
  ck 1 63 (nm (sA T 11 ((1 : Int32).toNatClampNeg) 0) (fun T2 => (m_X9_liftBegins_L9 n T2 0).bind (fun q4 => (m_X9_roundBegins n q4).bind (fun r26 => some r26))))
set_option maxHeartbeats 4000000 in
set_option maxRecDepth 100000 in
theorem c_X9_liftBegins (l : Launch) (D : va_G) (cy : Nat → ClassId) (ad : Nat → Nat) (X : va_W) (n : Nat) (T : St) (r : (St)) (h : m_X9_liftBegins n T = some r) : CT l yX9_liftBegins (wu yX9_liftBegins cX9_liftBegins 2 none) 2 D cy [.ref (ad 0)] (wR ad cy T ++ X) (none) (wR ad cy r ++ X) := by
  refine CT.mk (cc := cX9_liftBegins) (maxL := 2) (ret := none) (own := RX9) (by decide) rfl rfl (Nat.le_of_ble_eq_true rfl) ?_
  intro p e s m args below meth c ls A Q hA hQ hC hr hk hW hl
  have hx := hC.1
  have hb := hC.2.1
  have hown := hC.2.2.2.1
  have hts := hC.2.2.2.2
  have hl : lv_has ls 2 [(0, .ref (ad 0))] := hl
  have f32 := hts _ (wu_in w_5_10)
  have i9 := (fun w h => wu_in (inc_9 w h) : ∀ w ∈ u_ws RX9 TX9 40, w ∈ (wu yX9_liftBegins cX9_liftBegins 2 none))
  have f84 := hts _ (wu_in w_9_13)
  unfold m_X9_liftBegins at h
  refine lv_aload_n hx hb dX9_liftBegins_0 rfl (lv_at hl 0 rfl) ?_
  refine wd_get hC i9 hW 0 wR_c0 rfl 11 (Nat.le_of_ble_eq_true rfl) f32 rfl rfl dX9_liftBegins_1 ?_
  refine lv_iconst (v := 1) hx hb dX9_liftBegins_4 (by decide) ?_
  refine lv_iconst (v := 0) hx hb dX9_liftBegins_5 (by decide) ?_
  obtain ⟨hi1, h⟩ := ck_of h
  refine wd_iast hC hW 8 wR_c8 hi1 wR_t8 dX9_liftBegins_6 (fun H locs hW => ?_)
  obtain ⟨T2, e3, h⟩ := nm_of h
  replace hW := wq_T e3 hW
  refine lv_iconst (v := 0) hx hb dX9_liftBegins_7 (by decide) ?_
  refine lv_istore_n (lv' := [(1, .int 0), (0, .ref (ad 0))]) hx hb dX9_liftBegins_8 rfl hl (by decide) rfl (fun ls hl => ?_)
  have hL9 : ∀ (n : Nat) (T : St) (x1 : Int32)  (H : Heap) (locs : List Loc) (ls : Array Slot) (r : (St)), m_X9_liftBegins_L9 n T x1 = some r → Wd D cy A s (wR ad cy T ++ X) H locs → lv_has ls 2 [(0, .ref (ad 0)), (1, .int x1)] → (∀ (H : Heap) (locs : List Loc) (ls : Array Slot), Wd D cy A s (wR ad cy r ++ X) H locs → lv_has ls 2 [(0, .ref (ad 0))] → W p l e (RM 2) s m args below meth c H locs 0 0 Q (F0 m 81 ls [])) → W p l e (RM 2) s m args below meth c H locs 0 0 Q (F0 m 9 ls []) := by
    intro n
    induction n with
    | zero =>
      intro T x1  H locs ls r h
      exact absurd (h.symm.trans (m_X9_liftBegins_L9_0 ..)) (by simp)
    | succ n ih =>
      intro T x1  H locs ls r h hW hl kk
      rw [m_X9_liftBegins_L9_s] at h
      refine lv_iload_n hx hb dX9_liftBegins_9 rfl (lv_at hl 1 rfl) ?_
      refine lv_aload_n hx hb dX9_liftBegins_10 rfl (lv_at hl 0 rfl) ?_
      refine wd_get hC i9 hW 0 wR_c0 rfl 3 (Nat.le_of_ble_eq_true rfl) f84 rfl rfl dX9_liftBegins_11 ?_
      refine lv_icmp_ge (tgt := 81) hx hb dX9_liftBegins_14 (by decide) (fun c6 => ?_) (fun c6 => ?_)
      · replace h := ite_t h c6
        obtain rfl := Option.some.inj h
        exact kk _ _ _ hW (lv_sub hl [0] rfl)
      · replace h := ite_f h c6
        refine lv_aload_n hx hb dX9_liftBegins_17 rfl (lv_at hl 0 rfl) ?_
        refine lv_iload_n hx hb dX9_liftBegins_18 rfl (lv_at hl 1 rfl) ?_
        refine lv_iconst (v := 0) hx hb dX9_liftBegins_19 (by decide) ?_
        refine lv_aload_n hx hb dX9_liftBegins_20 rfl (lv_at hl 0 rfl) ?_
        obtain ⟨r7, hr8, h⟩ := bd_of h
        refine wd_callV1 (As := []) hC hW 0 wR_c0 rfl (c_X9_isOver l D cy ad X T r7 hr8) (cwV 0 hts (gu_V w_11_16 w_11_13 w_11_14 w_11_15 w_1_5) rfl rfl rfl hdX9_isOver ⟨Nat.le_of_ble_eq_true rfl, Nat.le_of_ble_eq_true rfl⟩) rfl hl.1 rfl (Nat.le_of_ble_eq_true rfl) ⟨Nat.zero_le _, Nat.zero_le _⟩ dX9_liftBegins_21 (fun H locs hW => ?_)
        obtain ⟨q10, hq11, h⟩ := bd_of h
        have hJ51 : ∀ (H : Heap) (locs : List Loc) (ls : Array Slot), Wd D cy A s (wR ad cy T ++ X) H locs → lv_has ls 2 [(0, .ref (ad 0)), (1, .int x1)] → W p l e (RM 2) s m args below meth c H locs 0 0 Q (F0 m 51 ls [.int q10, .int 0, .int x1, .ref (ad 0)]) := by
          intro H locs ls hW hl
          obtain ⟨r12, hr13, h⟩ := bd_of h
          refine wd_callV0 (As := [.int x1, .int 0, .int q10]) hC hW 0 wR_c0 rfl (c_X9_sets l D cy ad X T x1 0 q10 r12 hr13) (cwV 3 hts (gu_V w_12_8 w_12_5 w_12_6 w_12_7 w_1_5) rfl rfl rfl hdX9_sets ⟨Nat.le_of_ble_eq_true rfl, Nat.le_of_ble_eq_true rfl⟩) rfl hl.1 rfl (Nat.le_of_ble_eq_true rfl) ⟨Nat.zero_le _, Nat.zero_le _⟩ dX9_liftBegins_51 (fun H locs hW => ?_)
          refine lv_aload_n hx hb dX9_liftBegins_54 rfl (lv_at hl 0 rfl) ?_
          refine lv_iload_n hx hb dX9_liftBegins_55 rfl (lv_at hl 1 rfl) ?_
          refine lv_iconst (v := 2) hx hb dX9_liftBegins_56 (by decide) ?_
          refine lv_iconst (v := 0) hx hb dX9_liftBegins_57 (by decide) ?_
          obtain ⟨r14, hr15, h⟩ := bd_of h
          refine wd_callV0 (As := [.int x1, .int 2, .int 0]) hC hW 0 wR_c0 rfl (c_X9_sets l D cy ad X r12 x1 2 0 r14 hr15) (cwV 3 hts (gu_V w_12_8 w_12_5 w_12_6 w_12_7 w_1_5) rfl rfl rfl hdX9_sets ⟨Nat.le_of_ble_eq_true rfl, Nat.le_of_ble_eq_true rfl⟩) rfl hl.1 rfl (Nat.le_of_ble_eq_true rfl) ⟨Nat.zero_le _, Nat.zero_le _⟩ dX9_liftBegins_58 (fun H locs hW => ?_)
          refine lv_aload_n hx hb dX9_liftBegins_61 rfl (lv_at hl 0 rfl) ?_
          refine lv_iload_n hx hb dX9_liftBegins_62 rfl (lv_at hl 1 rfl) ?_
          refine lv_iconst (v := 3) hx hb dX9_liftBegins_63 (by decide) ?_
          refine lv_iconst (v := 0) hx hb dX9_liftBegins_64 (by decide) ?_
          obtain ⟨r16, hr17, h⟩ := bd_of h
          refine wd_callV0 (As := [.int x1, .int 3, .int 0]) hC hW 0 wR_c0 rfl (c_X9_sets l D cy ad X r14 x1 3 0 r16 hr17) (cwV 3 hts (gu_V w_12_8 w_12_5 w_12_6 w_12_7 w_1_5) rfl rfl rfl hdX9_sets ⟨Nat.le_of_ble_eq_true rfl, Nat.le_of_ble_eq_true rfl⟩) rfl hl.1 rfl (Nat.le_of_ble_eq_true rfl) ⟨Nat.zero_le _, Nat.zero_le _⟩ dX9_liftBegins_65 (fun H locs hW => ?_)
          refine lv_aload_n hx hb dX9_liftBegins_68 rfl (lv_at hl 0 rfl) ?_
          refine lv_iload_n hx hb dX9_liftBegins_69 rfl (lv_at hl 1 rfl) ?_
          refine lv_iconst (v := 4) hx hb dX9_liftBegins_70 (by decide) ?_
          refine lv_iconst (v := 0) hx hb dX9_liftBegins_71 (by decide) ?_
          obtain ⟨r18, hr19, h⟩ := bd_of h
          refine wd_callV0 (As := [.int x1, .int 4, .int 0]) hC hW 0 wR_c0 rfl (c_X9_sets l D cy ad X r16 x1 4 0 r18 hr19) (cwV 3 hts (gu_V w_12_8 w_12_5 w_12_6 w_12_7 w_1_5) rfl rfl rfl hdX9_sets ⟨Nat.le_of_ble_eq_true rfl, Nat.le_of_ble_eq_true rfl⟩) rfl hl.1 rfl (Nat.le_of_ble_eq_true rfl) ⟨Nat.zero_le _, Nat.zero_le _⟩ dX9_liftBegins_72 (fun H locs hW => ?_)
          refine lv_iinc (v := x1 + 1) (lv' := [(1, .int (x1 + 1)), (0, .ref (ad 0))]) hx hb dX9_liftBegins_75 hl (k := 1) rfl rfl (by decide) rfl (fun ls hl => ?_)
          refine lv_goto (tgt := 9) hx hb dX9_liftBegins_78 (by decide) ?_
          exact ih r18 (x1 + 1) _ _ _ r h hW (lv_sub hl [1, 0] rfl) kk
        replace h := hq11
        refine lv_if_ne (tgt := 35) hx hb dX9_liftBegins_24 (by decide) (fun c9 => ?_) (fun c9 => ?_)
        · replace h := ite_f h c9
          refine lv_iconst (v := 0) hx hb dX9_liftBegins_35 (by decide) ?_
          refine lv_goto (tgt := 51) hx hb dX9_liftBegins_36 (by decide) ?_
          obtain rfl := Option.some.inj h
          exact hJ51 _ _ _ hW (lv_sub hl [0, 1] rfl)
        · replace h := ite_t h c9
          refine lv_aload_n hx hb dX9_liftBegins_27 rfl (lv_at hl 0 rfl) ?_
          refine lv_iload_n hx hb dX9_liftBegins_28 rfl (lv_at hl 1 rfl) ?_
          obtain ⟨r20, hr21, h⟩ := bd_of h
          refine wd_callV1 (As := [.int x1]) hC hW 0 wR_c0 rfl (c_X9_isOut l D cy ad X T x1 r20 hr21) (cwV 1 hts (gu_V w_11_20 w_11_17 w_11_18 w_11_19 w_1_5) rfl rfl rfl hdX9_isOut ⟨Nat.le_of_ble_eq_true rfl, Nat.le_of_ble_eq_true rfl⟩) rfl hl.1 rfl (Nat.le_of_ble_eq_true rfl) ⟨Nat.zero_le _, Nat.zero_le _⟩ dX9_liftBegins_29 (fun H locs hW => ?_)
          refine lv_if_eq (tgt := 39) hx hb dX9_liftBegins_32 (by decide) (fun c22 => ?_) (fun c22 => ?_)
          · replace h := ite_t h c22
            refine lv_aload_n hx hb dX9_liftBegins_39 rfl (lv_at hl 0 rfl) ?_
            refine lv_iload_n hx hb dX9_liftBegins_40 rfl (lv_at hl 1 rfl) ?_
            refine lv_aload_n hx hb dX9_liftBegins_41 rfl (lv_at hl 0 rfl) ?_
            refine wd_get hC i9 hW 0 wR_c0 rfl 11 (Nat.le_of_ble_eq_true rfl) f32 rfl rfl dX9_liftBegins_42 ?_
            refine lv_iconst (v := 0) hx hb dX9_liftBegins_45 (by decide) ?_
            obtain ⟨hi23, h⟩ := ck_of h
            refine wd_iald hC hW 8 wR_c8 hi23 dX9_liftBegins_46 ?_
            refine lv_iconst (v := 0) hx hb dX9_liftBegins_47 (by decide) ?_
            obtain ⟨r24, hr25, h⟩ := bd_of h
            refine wd_callV1 (As := [.int x1, .int (T.2.1 11 ((0 : Int32).toNatClampNeg)), .int 0]) hC hW 0 wR_c0 rfl (c_X9_planOf l D cy ad X T x1 (T.2.1 11 ((0 : Int32).toNatClampNeg)) 0 r24 hr25) (cwV 3 hts (gu_V w_12_4 w_12_1 w_12_2 w_12_3 w_1_5) rfl rfl rfl hdX9_planOf ⟨Nat.le_of_ble_eq_true rfl, Nat.le_of_ble_eq_true rfl⟩) rfl hl.1 rfl (Nat.le_of_ble_eq_true rfl) ⟨Nat.zero_le _, Nat.zero_le _⟩ dX9_liftBegins_48 (fun H locs hW => ?_)
            obtain rfl := Option.some.inj h
            exact hJ51 _ _ _ hW (lv_sub hl [0, 1] rfl)
          · replace h := ite_f h c22
            refine lv_iconst (v := 0) hx hb dX9_liftBegins_35 (by decide) ?_
            refine lv_goto (tgt := 51) hx hb dX9_liftBegins_36 (by decide) ?_
            obtain rfl := Option.some.inj h
            exact hJ51 _ _ _ hW (lv_sub hl [0, 1] rfl)
  obtain ⟨q4, hq5, h⟩ := bd_of h
  refine hL9 n T2 0  _ _ _ q4 hq5 hW (lv_sub hl [1, 0] rfl) (fun H locs ls hW hl => ?_)
  refine lv_aload_n hx hb dX9_liftBegins_81 rfl (lv_at hl 0 rfl) ?_
  obtain ⟨r26, hr27, h⟩ := bd_of h
  refine wd_callV0 (As := []) hC hW 0 wR_c0 rfl (c_X9_roundBegins l D cy ad X n q4 r26 hr27) (cwV 0 hts (gu_V w_12_12 w_12_9 w_12_10 w_12_11 w_1_5) rfl rfl rfl hdX9_roundBegins ⟨Nat.le_of_ble_eq_true rfl, Nat.le_of_ble_eq_true rfl⟩) rfl hl.1 rfl (Nat.le_of_ble_eq_true rfl) ⟨Nat.zero_le _, Nat.zero_le _⟩ dX9_liftBegins_82 (fun H locs hW => ?_)
  obtain rfl := Option.some.inj h
  exact wd_vret hA hQ hC hr hk hW dX9_liftBegins_85
def m_X9_meetBegins_L2 : Nat → St → Int32 → Option (St)
  | 0, _, _ => none
  | n + 1, T, x1 =>
    if 63 ≤ x1 then (some T) else (ck x1 63 (nm (sA T 11 x1.toNatClampNeg 0) (fun T5 => m_X9_meetBegins_L2 n T5 (x1 + 1))))
theorem m_X9_meetBegins_L2_0 (T : St) (x1 : Int32) : m_X9_meetBegins_L2 0 T x1 = none := rfl
theorem m_X9_meetBegins_L2_s {n : Nat} {T : St} {x1 : Int32} : m_X9_meetBegins_L2 (n + 1) T x1 =
    (if 63 ≤ x1 then (some T) else (ck x1 63 (nm (sA T 11 x1.toNatClampNeg 0) (fun T5 => m_X9_meetBegins_L2 n T5 (x1 + 1))))) := rfl
def m_X9_meetBegins (n : Nat) (T : St) : Option (St) :=
  (m_X9_meetBegins_L2 n T 0).bind (fun q1 => nm (sI q1 13 0) (fun T7 => nm (sI T7 14 0) (fun T9 => (m_X9_liftBegins n T9).bind (fun r11 => some r11))))
set_option maxHeartbeats 4000000 in
set_option maxRecDepth 100000 in
theorem c_X9_meetBegins (l : Launch) (D : va_G) (cy : Nat → ClassId) (ad : Nat → Nat) (X : va_W) (n : Nat) (T : St) (r : (St)) (h : m_X9_meetBegins n T = some r) : CT l yX9_meetBegins (wu yX9_meetBegins cX9_meetBegins 2 none) 3 D cy [.ref (ad 0)] (wR ad cy T ++ X) (none) (wR ad cy r ++ X) := by
  refine CT.mk (cc := cX9_meetBegins) (maxL := 2) (ret := none) (own := RX9) (by decide) rfl rfl (Nat.le_of_ble_eq_true rfl) ?_
  intro p e s m args below meth c ls A Q hA hQ hC hr hk hW hl
  have hx := hC.1
  have hb := hC.2.1
  have hown := hC.2.2.2.1
  have hts := hC.2.2.2.2
  have hl : lv_has ls 2 [(0, .ref (ad 0))] := hl
  have f32 := hts _ (wu_in w_5_10)
  have i9 := (fun w h => wu_in (inc_9 w h) : ∀ w ∈ u_ws RX9 TX9 40, w ∈ (wu yX9_meetBegins cX9_meetBegins 2 none))
  have f131 := hts _ (wu_in w_11_7)
  have f134 := hts _ (wu_in w_11_8)
  unfold m_X9_meetBegins at h
  refine lv_iconst (v := 0) hx hb dX9_meetBegins_0 (by decide) ?_
  refine lv_istore_n (lv' := [(1, .int 0), (0, .ref (ad 0))]) hx hb dX9_meetBegins_1 rfl hl (by decide) rfl (fun ls hl => ?_)
  have hL2 : ∀ (n : Nat) (T : St) (x1 : Int32)  (H : Heap) (locs : List Loc) (ls : Array Slot) (r : (St)), m_X9_meetBegins_L2 n T x1 = some r → Wd D cy A s (wR ad cy T ++ X) H locs → lv_has ls 2 [(0, .ref (ad 0)), (1, .int x1)] → (∀ (H : Heap) (locs : List Loc) (ls : Array Slot), Wd D cy A s (wR ad cy r ++ X) H locs → lv_has ls 2 [(0, .ref (ad 0))] → W p l e (RM 3) s m args below meth c H locs 0 0 Q (F0 m 24 ls [])) → W p l e (RM 3) s m args below meth c H locs 0 0 Q (F0 m 2 ls []) := by
    intro n
    induction n with
    | zero =>
      intro T x1  H locs ls r h
      exact absurd (h.symm.trans (m_X9_meetBegins_L2_0 ..)) (by simp)
    | succ n ih =>
      intro T x1  H locs ls r h hW hl kk
      rw [m_X9_meetBegins_L2_s] at h
      refine lv_iload_n hx hb dX9_meetBegins_2 rfl (lv_at hl 1 rfl) ?_
      refine lv_aload_n hx hb dX9_meetBegins_3 rfl (lv_at hl 0 rfl) ?_
      refine wd_get hC i9 hW 0 wR_c0 rfl 11 (Nat.le_of_ble_eq_true rfl) f32 rfl rfl dX9_meetBegins_4 ?_
      refine wd_alen hC hW 8 0 wR_c8 rfl (v := 63) rfl dX9_meetBegins_7 ?_
      refine lv_icmp_ge (tgt := 24) hx hb dX9_meetBegins_8 (by decide) (fun c3 => ?_) (fun c3 => ?_)
      · replace h := ite_t h c3
        obtain rfl := Option.some.inj h
        exact kk _ _ _ hW (lv_sub hl [0] rfl)
      · replace h := ite_f h c3
        refine lv_aload_n hx hb dX9_meetBegins_11 rfl (lv_at hl 0 rfl) ?_
        refine wd_get hC i9 hW 0 wR_c0 rfl 11 (Nat.le_of_ble_eq_true rfl) f32 rfl rfl dX9_meetBegins_12 ?_
        refine lv_iload_n hx hb dX9_meetBegins_15 rfl (lv_at hl 1 rfl) ?_
        refine lv_iconst (v := 0) hx hb dX9_meetBegins_16 (by decide) ?_
        obtain ⟨hi4, h⟩ := ck_of h
        refine wd_iast hC hW 8 wR_c8 hi4 wR_t8 dX9_meetBegins_17 (fun H locs hW => ?_)
        obtain ⟨T5, e6, h⟩ := nm_of h
        replace hW := wq_T e6 hW
        refine lv_iinc (v := x1 + 1) (lv' := [(1, .int (x1 + 1)), (0, .ref (ad 0))]) hx hb dX9_meetBegins_18 hl (k := 1) rfl rfl (by decide) rfl (fun ls hl => ?_)
        refine lv_goto (tgt := 2) hx hb dX9_meetBegins_21 (by decide) ?_
        exact ih T5 (x1 + 1) _ _ _ r h hW (lv_sub hl [1, 0] rfl) kk
  obtain ⟨q1, hq2, h⟩ := bd_of h
  refine hL2 n T 0  _ _ _ q1 hq2 hW (lv_sub hl [1, 0] rfl) (fun H locs ls hW hl => ?_)
  refine lv_aload_n hx hb dX9_meetBegins_24 rfl (lv_at hl 0 rfl) ?_
  refine lv_iconst (v := 0) hx hb dX9_meetBegins_25 (by decide) ?_
  refine wd_put hC i9 tyX9_ok nmX9 hW 0 wR_c0 rfl 13 (Nat.le_of_ble_eq_true rfl) f131 rfl rfl rfl rfl (Nat.le_of_ble_eq_true rfl) wR_s0_13 dX9_meetBegins_26 (fun H locs hW => ?_)
  obtain ⟨T7, e8, h⟩ := nm_of h
  replace hW := wq_T e8 hW
  refine lv_aload_n hx hb dX9_meetBegins_29 rfl (lv_at hl 0 rfl) ?_
  refine lv_iconst (v := 0) hx hb dX9_meetBegins_30 (by decide) ?_
  refine wd_put hC i9 tyX9_ok nmX9 hW 0 wR_c0 rfl 14 (Nat.le_of_ble_eq_true rfl) f134 rfl rfl rfl rfl (Nat.le_of_ble_eq_true rfl) wR_s0_14 dX9_meetBegins_31 (fun H locs hW => ?_)
  obtain ⟨T9, e10, h⟩ := nm_of h
  replace hW := wq_T e10 hW
  refine lv_aload_n hx hb dX9_meetBegins_34 rfl (lv_at hl 0 rfl) ?_
  obtain ⟨r11, hr12, h⟩ := bd_of h
  refine wd_callV0 (As := []) hC hW 0 wR_c0 rfl (c_X9_liftBegins l D cy ad X n T9 r11 hr12) (cwV 0 hts (gu_V w_11_12 w_11_9 w_11_10 w_11_11 w_1_5) rfl rfl rfl hdX9_liftBegins ⟨Nat.le_of_ble_eq_true rfl, Nat.le_of_ble_eq_true rfl⟩) rfl hl.1 rfl (Nat.le_of_ble_eq_true rfl) ⟨Nat.zero_le _, Nat.zero_le _⟩ dX9_meetBegins_35 (fun H locs hW => ?_)
  obtain rfl := Option.some.inj h
  exact wd_vret hA hQ hC hr hk hW dX9_meetBegins_38
def m_X9_isStill (T : St) (p0 : Int32) : Option (Int32) :=
  (m_X9_of T p0 0).bind (fun r1 => if r1 ≤ 0 then (some 0) else ((m_X9_of T p0 1).bind (fun r4 => if r4 = 0 then ((m_X9_isOut T p0).bind (fun r7 => if r7 = 0 then ((m_X9_isOver T).bind (fun r10 => if r10 = 0 then (some 1) else (some 0))) else (some 0))) else (some 0))))
set_option maxHeartbeats 4000000 in
set_option maxRecDepth 100000 in
theorem c_X9_isStill (l : Launch) (D : va_G) (cy : Nat → ClassId) (ad : Nat → Nat) (X : va_W) (T : St) (p0 : Int32) (r : (Int32)) (h : m_X9_isStill T p0 = some r) : CT l yX9_isStill (wu yX9_isStill cX9_isStill 2 (some .boolean)) 2 D cy [.ref (ad 0), .int p0] (wR ad cy T ++ X) (some (.int r)) (wR ad cy T ++ X) := by
  refine CT.mk (cc := cX9_isStill) (maxL := 2) (ret := (some .boolean)) (own := RX9) (by decide) rfl rfl (Nat.le_of_ble_eq_true rfl) ?_
  intro p e s m args below meth c ls A Q hA hQ hC hr hk hW hl
  have hx := hC.1
  have hb := hC.2.1
  have hown := hC.2.2.2.1
  have hts := hC.2.2.2.2
  have hl : lv_has ls 2 [(0, .ref (ad 0)), (1, .int p0)] := hl
  unfold m_X9_isStill at h
  refine lv_aload_n hx hb dX9_isStill_0 rfl (lv_at hl 0 rfl) ?_
  refine lv_iload_n hx hb dX9_isStill_1 rfl (lv_at hl 1 rfl) ?_
  refine lv_iconst (v := 0) hx hb dX9_isStill_2 (by decide) ?_
  obtain ⟨r1, hr2, h⟩ := bd_of h
  refine wd_callV1 (As := [.int p0, .int 0]) hC hW 0 wR_c0 rfl (c_X9_of l D cy ad X T p0 0 r1 hr2) (cwV 2 hts (gu_V w_12_0 w_11_21 w_11_22 w_11_23 w_1_5) rfl rfl rfl hdX9_of ⟨Nat.le_of_ble_eq_true rfl, Nat.le_of_ble_eq_true rfl⟩) rfl hl.1 rfl (Nat.le_of_ble_eq_true rfl) ⟨Nat.zero_le _, Nat.zero_le _⟩ dX9_isStill_3 (fun H locs hW => ?_)
  refine lv_if_le (tgt := 37) hx hb dX9_isStill_6 (by decide) (fun c3 => ?_) (fun c3 => ?_)
  · replace h := ite_t h c3
    refine lv_iconst (v := 0) hx hb dX9_isStill_37 (by decide) ?_
    obtain rfl := Option.some.inj h
    exact wd_zret hA hQ hC hr hk hW rfl dX9_isStill_38
  · replace h := ite_f h c3
    refine lv_aload_n hx hb dX9_isStill_9 rfl (lv_at hl 0 rfl) ?_
    refine lv_iload_n hx hb dX9_isStill_10 rfl (lv_at hl 1 rfl) ?_
    refine lv_iconst (v := 1) hx hb dX9_isStill_11 (by decide) ?_
    obtain ⟨r4, hr5, h⟩ := bd_of h
    refine wd_callV1 (As := [.int p0, .int 1]) hC hW 0 wR_c0 rfl (c_X9_of l D cy ad X T p0 1 r4 hr5) (cwV 2 hts (gu_V w_12_0 w_11_21 w_11_22 w_11_23 w_1_5) rfl rfl rfl hdX9_of ⟨Nat.le_of_ble_eq_true rfl, Nat.le_of_ble_eq_true rfl⟩) rfl hl.1 rfl (Nat.le_of_ble_eq_true rfl) ⟨Nat.zero_le _, Nat.zero_le _⟩ dX9_isStill_12 (fun H locs hW => ?_)
    refine lv_if_ne (tgt := 37) hx hb dX9_isStill_15 (by decide) (fun c6 => ?_) (fun c6 => ?_)
    · replace h := ite_f h c6
      refine lv_iconst (v := 0) hx hb dX9_isStill_37 (by decide) ?_
      obtain rfl := Option.some.inj h
      exact wd_zret hA hQ hC hr hk hW rfl dX9_isStill_38
    · replace h := ite_t h c6
      refine lv_aload_n hx hb dX9_isStill_18 rfl (lv_at hl 0 rfl) ?_
      refine lv_iload_n hx hb dX9_isStill_19 rfl (lv_at hl 1 rfl) ?_
      obtain ⟨r7, hr8, h⟩ := bd_of h
      refine wd_callV1 (As := [.int p0]) hC hW 0 wR_c0 rfl (c_X9_isOut l D cy ad X T p0 r7 hr8) (cwV 1 hts (gu_V w_11_20 w_11_17 w_11_18 w_11_19 w_1_5) rfl rfl rfl hdX9_isOut ⟨Nat.le_of_ble_eq_true rfl, Nat.le_of_ble_eq_true rfl⟩) rfl hl.1 rfl (Nat.le_of_ble_eq_true rfl) ⟨Nat.zero_le _, Nat.zero_le _⟩ dX9_isStill_20 (fun H locs hW => ?_)
      refine lv_if_ne (tgt := 37) hx hb dX9_isStill_23 (by decide) (fun c9 => ?_) (fun c9 => ?_)
      · replace h := ite_f h c9
        refine lv_iconst (v := 0) hx hb dX9_isStill_37 (by decide) ?_
        obtain rfl := Option.some.inj h
        exact wd_zret hA hQ hC hr hk hW rfl dX9_isStill_38
      · replace h := ite_t h c9
        refine lv_aload_n hx hb dX9_isStill_26 rfl (lv_at hl 0 rfl) ?_
        obtain ⟨r10, hr11, h⟩ := bd_of h
        refine wd_callV1 (As := []) hC hW 0 wR_c0 rfl (c_X9_isOver l D cy ad X T r10 hr11) (cwV 0 hts (gu_V w_11_16 w_11_13 w_11_14 w_11_15 w_1_5) rfl rfl rfl hdX9_isOver ⟨Nat.le_of_ble_eq_true rfl, Nat.le_of_ble_eq_true rfl⟩) rfl hl.1 rfl (Nat.le_of_ble_eq_true rfl) ⟨Nat.zero_le _, Nat.zero_le _⟩ dX9_isStill_27 (fun H locs hW => ?_)
        refine lv_if_ne (tgt := 37) hx hb dX9_isStill_30 (by decide) (fun c12 => ?_) (fun c12 => ?_)
        · replace h := ite_f h c12
          refine lv_iconst (v := 0) hx hb dX9_isStill_37 (by decide) ?_
          obtain rfl := Option.some.inj h
          exact wd_zret hA hQ hC hr hk hW rfl dX9_isStill_38
        · replace h := ite_t h c12
          refine lv_iconst (v := 1) hx hb dX9_isStill_33 (by decide) ?_
          refine lv_goto (tgt := 38) hx hb dX9_isStill_34 (by decide) ?_
          obtain rfl := Option.some.inj h
          exact wd_zret hA hQ hC hr hk hW rfl dX9_isStill_38
def m_X9_isCalledAhead (T : St) (p0 : Int32) (p1 : Int32) : Option (Int32) :=
  (m_X9_of T p0 0).bind (fun r1 => (m_X9_of T p1 0).bind (fun r3 => if r1 < r3 then (some 1) else ((m_X9_of T p0 0).bind (fun r6 => (m_X9_of T p1 0).bind (fun r8 => if r6 = r8 then (ck p0 6 (ck p1 6 (if (T.2.1 5 p1.toNatClampNeg) ≤ (T.2.1 5 p0.toNatClampNeg) then (some 0) else (some 1)))) else (some 0))))))
set_option maxHeartbeats 4000000 in
set_option maxRecDepth 100000 in
theorem c_X9_isCalledAhead (l : Launch) (D : va_G) (cy : Nat → ClassId) (ad : Nat → Nat) (X : va_W) (T : St) (p0 : Int32) (p1 : Int32) (r : (Int32)) (h : m_X9_isCalledAhead T p0 p1 = some r) : CT l yX9_isCalledAhead (wu yX9_isCalledAhead cX9_isCalledAhead 3 (some .boolean)) 1 D cy [.ref (ad 0), .int p0, .int p1] (wR ad cy T ++ X) (some (.int r)) (wR ad cy T ++ X) := by
  refine CT.mk (cc := cX9_isCalledAhead) (maxL := 3) (ret := (some .boolean)) (own := RX9) (by decide) rfl rfl (Nat.le_of_ble_eq_true rfl) ?_
  intro p e s m args below meth c ls A Q hA hQ hC hr hk hW hl
  have hx := hC.1
  have hb := hC.2.1
  have hown := hC.2.2.2.1
  have hts := hC.2.2.2.2
  have hl : lv_has ls 3 [(0, .ref (ad 0)), (1, .int p0), (2, .int p1)] := hl
  have f17 := hts _ (wu_in w_5_5)
  have i9 := (fun w h => wu_in (inc_9 w h) : ∀ w ∈ u_ws RX9 TX9 40, w ∈ (wu yX9_isCalledAhead cX9_isCalledAhead 3 (some .boolean)))
  unfold m_X9_isCalledAhead at h
  refine lv_aload_n hx hb dX9_isCalledAhead_0 rfl (lv_at hl 0 rfl) ?_
  refine lv_iload_n hx hb dX9_isCalledAhead_1 rfl (lv_at hl 1 rfl) ?_
  refine lv_iconst (v := 0) hx hb dX9_isCalledAhead_2 (by decide) ?_
  obtain ⟨r1, hr2, h⟩ := bd_of h
  refine wd_callV1 (As := [.int p0, .int 0]) hC hW 0 wR_c0 rfl (c_X9_of l D cy ad X T p0 0 r1 hr2) (cwV 2 hts (gu_V w_12_0 w_11_21 w_11_22 w_11_23 w_1_5) rfl rfl rfl hdX9_of ⟨Nat.le_of_ble_eq_true rfl, Nat.le_of_ble_eq_true rfl⟩) rfl hl.1 rfl (Nat.le_of_ble_eq_true rfl) ⟨Nat.zero_le _, Nat.zero_le _⟩ dX9_isCalledAhead_3 (fun H locs hW => ?_)
  refine lv_aload_n hx hb dX9_isCalledAhead_6 rfl (lv_at hl 0 rfl) ?_
  refine lv_iload_n hx hb dX9_isCalledAhead_7 rfl (lv_at hl 2 rfl) ?_
  refine lv_iconst (v := 0) hx hb dX9_isCalledAhead_8 (by decide) ?_
  obtain ⟨r3, hr4, h⟩ := bd_of h
  refine wd_callV1 (As := [.int p1, .int 0]) hC hW 0 wR_c0 rfl (c_X9_of l D cy ad X T p1 0 r3 hr4) (cwV 2 hts (gu_V w_12_0 w_11_21 w_11_22 w_11_23 w_1_5) rfl rfl rfl hdX9_of ⟨Nat.le_of_ble_eq_true rfl, Nat.le_of_ble_eq_true rfl⟩) rfl hl.1 rfl (Nat.le_of_ble_eq_true rfl) ⟨Nat.zero_le _, Nat.zero_le _⟩ dX9_isCalledAhead_9 (fun H locs hW => ?_)
  refine lv_icmp_lt (tgt := 45) hx hb dX9_isCalledAhead_12 (by decide) (fun c5 => ?_) (fun c5 => ?_)
  · replace h := ite_t h c5
    refine lv_iconst (v := 1) hx hb dX9_isCalledAhead_45 (by decide) ?_
    refine lv_goto (tgt := 50) hx hb dX9_isCalledAhead_46 (by decide) ?_
    obtain rfl := Option.some.inj h
    exact wd_zret hA hQ hC hr hk hW rfl dX9_isCalledAhead_50
  · replace h := ite_f h c5
    refine lv_aload_n hx hb dX9_isCalledAhead_15 rfl (lv_at hl 0 rfl) ?_
    refine lv_iload_n hx hb dX9_isCalledAhead_16 rfl (lv_at hl 1 rfl) ?_
    refine lv_iconst (v := 0) hx hb dX9_isCalledAhead_17 (by decide) ?_
    obtain ⟨r6, hr7, h⟩ := bd_of h
    refine wd_callV1 (As := [.int p0, .int 0]) hC hW 0 wR_c0 rfl (c_X9_of l D cy ad X T p0 0 r6 hr7) (cwV 2 hts (gu_V w_12_0 w_11_21 w_11_22 w_11_23 w_1_5) rfl rfl rfl hdX9_of ⟨Nat.le_of_ble_eq_true rfl, Nat.le_of_ble_eq_true rfl⟩) rfl hl.1 rfl (Nat.le_of_ble_eq_true rfl) ⟨Nat.zero_le _, Nat.zero_le _⟩ dX9_isCalledAhead_18 (fun H locs hW => ?_)
    refine lv_aload_n hx hb dX9_isCalledAhead_21 rfl (lv_at hl 0 rfl) ?_
    refine lv_iload_n hx hb dX9_isCalledAhead_22 rfl (lv_at hl 2 rfl) ?_
    refine lv_iconst (v := 0) hx hb dX9_isCalledAhead_23 (by decide) ?_
    obtain ⟨r8, hr9, h⟩ := bd_of h
    refine wd_callV1 (As := [.int p1, .int 0]) hC hW 0 wR_c0 rfl (c_X9_of l D cy ad X T p1 0 r8 hr9) (cwV 2 hts (gu_V w_12_0 w_11_21 w_11_22 w_11_23 w_1_5) rfl rfl rfl hdX9_of ⟨Nat.le_of_ble_eq_true rfl, Nat.le_of_ble_eq_true rfl⟩) rfl hl.1 rfl (Nat.le_of_ble_eq_true rfl) ⟨Nat.zero_le _, Nat.zero_le _⟩ dX9_isCalledAhead_24 (fun H locs hW => ?_)
    refine lv_icmp_ne (tgt := 49) hx hb dX9_isCalledAhead_27 (by decide) (fun c10 => ?_) (fun c10 => ?_)
    · replace h := ite_f h c10
      refine lv_iconst (v := 0) hx hb dX9_isCalledAhead_49 (by decide) ?_
      obtain rfl := Option.some.inj h
      exact wd_zret hA hQ hC hr hk hW rfl dX9_isCalledAhead_50
    · replace h := ite_t h c10
      refine lv_aload_n hx hb dX9_isCalledAhead_30 rfl (lv_at hl 0 rfl) ?_
      refine wd_get hC i9 hW 0 wR_c0 rfl 5 (Nat.le_of_ble_eq_true rfl) f17 rfl rfl dX9_isCalledAhead_31 ?_
      refine lv_iload_n hx hb dX9_isCalledAhead_34 rfl (lv_at hl 1 rfl) ?_
      obtain ⟨hi11, h⟩ := ck_of h
      refine wd_iald hC hW 3 wR_c3 hi11 dX9_isCalledAhead_35 ?_
      refine lv_aload_n hx hb dX9_isCalledAhead_36 rfl (lv_at hl 0 rfl) ?_
      refine wd_get hC i9 hW 0 wR_c0 rfl 5 (Nat.le_of_ble_eq_true rfl) f17 rfl rfl dX9_isCalledAhead_37 ?_
      refine lv_iload_n hx hb dX9_isCalledAhead_40 rfl (lv_at hl 2 rfl) ?_
      obtain ⟨hi12, h⟩ := ck_of h
      refine wd_iald hC hW 3 wR_c3 hi12 dX9_isCalledAhead_41 ?_
      refine lv_icmp_ge (tgt := 49) hx hb dX9_isCalledAhead_42 (by decide) (fun c13 => ?_) (fun c13 => ?_)
      · replace h := ite_t h c13
        refine lv_iconst (v := 0) hx hb dX9_isCalledAhead_49 (by decide) ?_
        obtain rfl := Option.some.inj h
        exact wd_zret hA hQ hC hr hk hW rfl dX9_isCalledAhead_50
      · replace h := ite_f h c13
        refine lv_iconst (v := 1) hx hb dX9_isCalledAhead_45 (by decide) ?_
        refine lv_goto (tgt := 50) hx hb dX9_isCalledAhead_46 (by decide) ?_
        obtain rfl := Option.some.inj h
        exact wd_zret hA hQ hC hr hk hW rfl dX9_isCalledAhead_50
def m_X9_calledNow_L4 : Nat → St → Int32 → Int32 → Option (Int32)
  | 0, _, _, _ => none
  | n + 1, T, x1, x2 =>
    if (T.1 3) ≤ x2 then (some x1) else ((m_X9_isStill T x2).bind (fun r4 => if r4 = 0 then (m_X9_calledNow_L4 n T x1 (x2 + 1)) else (if x1 = (-1) then (m_X9_calledNow_L4 n T x2 (x2 + 1)) else ((m_X9_isCalledAhead T x2 x1).bind (fun r8 => if r8 = 0 then (m_X9_calledNow_L4 n T x1 (x2 + 1)) else (m_X9_calledNow_L4 n T x2 (x2 + 1)))))))
theorem m_X9_calledNow_L4_0 (T : St) (x1 : Int32) (x2 : Int32) : m_X9_calledNow_L4 0 T x1 x2 = none := rfl
theorem m_X9_calledNow_L4_s {n : Nat} {T : St} {x1 : Int32} {x2 : Int32} : m_X9_calledNow_L4 (n + 1) T x1 x2 =
    (if (T.1 3) ≤ x2 then (some x1) else ((m_X9_isStill T x2).bind (fun r4 => if r4 = 0 then (m_X9_calledNow_L4 n T x1 (x2 + 1)) else (if x1 = (-1) then (m_X9_calledNow_L4 n T x2 (x2 + 1)) else ((m_X9_isCalledAhead T x2 x1).bind (fun r8 => if r8 = 0 then (m_X9_calledNow_L4 n T x1 (x2 + 1)) else (m_X9_calledNow_L4 n T x2 (x2 + 1)))))))) := rfl
def m_X9_calledNow (n : Nat) (T : St) : Option (Int32) :=
  (m_X9_calledNow_L4 n T (-1) 0).bind (fun q1 => some q1)
set_option maxHeartbeats 4000000 in
set_option maxRecDepth 100000 in
theorem c_X9_calledNow (l : Launch) (D : va_G) (cy : Nat → ClassId) (ad : Nat → Nat) (X : va_W) (n : Nat) (T : St) (r : (Int32)) (h : m_X9_calledNow n T = some r) : CT l yX9_calledNow (wu yX9_calledNow cX9_calledNow 3 (some .int)) 3 D cy [.ref (ad 0)] (wR ad cy T ++ X) (some (.int r)) (wR ad cy T ++ X) := by
  refine CT.mk (cc := cX9_calledNow) (maxL := 3) (ret := (some .int)) (own := RX9) (by decide) rfl rfl (Nat.le_of_ble_eq_true rfl) ?_
  intro p e s m args below meth c ls A Q hA hQ hC hr hk hW hl
  have hx := hC.1
  have hb := hC.2.1
  have hown := hC.2.2.2.1
  have hts := hC.2.2.2.2
  have hl : lv_has ls 3 [(0, .ref (ad 0))] := hl
  have f84 := hts _ (wu_in w_9_13)
  have i9 := (fun w h => wu_in (inc_9 w h) : ∀ w ∈ u_ws RX9 TX9 40, w ∈ (wu yX9_calledNow cX9_calledNow 3 (some .int)))
  unfold m_X9_calledNow at h
  refine lv_iconst (v := (-1)) hx hb dX9_calledNow_0 (by decide) ?_
  refine lv_istore_n (lv' := [(1, .int (-1)), (0, .ref (ad 0))]) hx hb dX9_calledNow_1 rfl hl (by decide) rfl (fun ls hl => ?_)
  refine lv_iconst (v := 0) hx hb dX9_calledNow_2 (by decide) ?_
  refine lv_istore_n (lv' := [(2, .int 0), (1, .int (-1)), (0, .ref (ad 0))]) hx hb dX9_calledNow_3 rfl hl (by decide) rfl (fun ls hl => ?_)
  have hL4 : ∀ (n : Nat) (x1 : Int32) (x2 : Int32)  (H : Heap) (locs : List Loc) (ls : Array Slot) (r : (Int32)), m_X9_calledNow_L4 n T x1 x2 = some r → Wd D cy A s (wR ad cy T ++ X) H locs → lv_has ls 3 [(0, .ref (ad 0)), (1, .int x1), (2, .int x2)] → (∀ (H : Heap) (locs : List Loc) (ls : Array Slot), Wd D cy A s (wR ad cy T ++ X) H locs → lv_has ls 3 [(0, .ref (ad 0)), (1, .int r)] → W p l e (RM 3) s m args below meth c H locs 0 0 Q (F0 m 42 ls [])) → W p l e (RM 3) s m args below meth c H locs 0 0 Q (F0 m 4 ls []) := by
    intro n
    induction n with
    | zero =>
      intro x1 x2  H locs ls r h
      exact absurd (h.symm.trans (m_X9_calledNow_L4_0 ..)) (by simp)
    | succ n ih =>
      intro x1 x2  H locs ls r h hW hl kk
      rw [m_X9_calledNow_L4_s] at h
      refine lv_iload_n hx hb dX9_calledNow_4 rfl (lv_at hl 2 rfl) ?_
      refine lv_aload_n hx hb dX9_calledNow_5 rfl (lv_at hl 0 rfl) ?_
      refine wd_get hC i9 hW 0 wR_c0 rfl 3 (Nat.le_of_ble_eq_true rfl) f84 rfl rfl dX9_calledNow_6 ?_
      refine lv_icmp_ge (tgt := 42) hx hb dX9_calledNow_9 (by decide) (fun c3 => ?_) (fun c3 => ?_)
      · replace h := ite_t h c3
        obtain rfl := Option.some.inj h
        exact kk _ _ _ hW (lv_sub hl [0, 1] rfl)
      · replace h := ite_f h c3
        refine lv_aload_n hx hb dX9_calledNow_12 rfl (lv_at hl 0 rfl) ?_
        refine lv_iload_n hx hb dX9_calledNow_13 rfl (lv_at hl 2 rfl) ?_
        obtain ⟨r4, hr5, h⟩ := bd_of h
        refine wd_callV1 (As := [.int x2]) hC hW 0 wR_c0 rfl (c_X9_isStill l D cy ad X T x2 r4 hr5) (cwV 1 hts (gu_V w_17_15 w_17_12 w_17_13 w_17_14 w_1_5) rfl rfl rfl hdX9_isStill ⟨Nat.le_of_ble_eq_true rfl, Nat.le_of_ble_eq_true rfl⟩) rfl hl.1 rfl (Nat.le_of_ble_eq_true rfl) ⟨Nat.zero_le _, Nat.zero_le _⟩ dX9_calledNow_14 (fun H locs hW => ?_)
        refine lv_if_eq (tgt := 36) hx hb dX9_calledNow_17 (by decide) (fun c6 => ?_) (fun c6 => ?_)
        · replace h := ite_t h c6
          refine lv_iinc (v := x2 + 1) (lv' := [(2, .int (x2 + 1)), (0, .ref (ad 0)), (1, .int x1)]) hx hb dX9_calledNow_36 hl (k := 2) rfl rfl (by decide) rfl (fun ls hl => ?_)
          refine lv_goto (tgt := 4) hx hb dX9_calledNow_39 (by decide) ?_
          exact ih x1 (x2 + 1) _ _ _ r h hW (lv_sub hl [1, 2, 0] rfl) kk
        · replace h := ite_f h c6
          refine lv_iload_n hx hb dX9_calledNow_20 rfl (lv_at hl 1 rfl) ?_
          refine lv_iconst (v := (-1)) hx hb dX9_calledNow_21 (by decide) ?_
          refine lv_icmp_eq (tgt := 34) hx hb dX9_calledNow_22 (by decide) (fun c7 => ?_) (fun c7 => ?_)
          · replace h := ite_t h c7
            refine lv_iload_n hx hb dX9_calledNow_34 rfl (lv_at hl 2 rfl) ?_
            refine lv_istore_n (lv' := [(1, .int x2), (0, .ref (ad 0)), (2, .int x2)]) hx hb dX9_calledNow_35 rfl hl (by decide) rfl (fun ls hl => ?_)
            refine lv_iinc (v := x2 + 1) (lv' := [(2, .int (x2 + 1)), (1, .int x2), (0, .ref (ad 0))]) hx hb dX9_calledNow_36 hl (k := 2) rfl rfl (by decide) rfl (fun ls hl => ?_)
            refine lv_goto (tgt := 4) hx hb dX9_calledNow_39 (by decide) ?_
            exact ih x2 (x2 + 1) _ _ _ r h hW (lv_sub hl [2, 1, 0] rfl) kk
          · replace h := ite_f h c7
            refine lv_aload_n hx hb dX9_calledNow_25 rfl (lv_at hl 0 rfl) ?_
            refine lv_iload_n hx hb dX9_calledNow_26 rfl (lv_at hl 2 rfl) ?_
            refine lv_iload_n hx hb dX9_calledNow_27 rfl (lv_at hl 1 rfl) ?_
            obtain ⟨r8, hr9, h⟩ := bd_of h
            refine wd_callV1 (As := [.int x2, .int x1]) hC hW 0 wR_c0 rfl (c_X9_isCalledAhead l D cy ad X T x2 x1 r8 hr9) (cwV 2 hts (gu_V w_19_10 w_19_7 w_19_8 w_19_9 w_1_5) rfl rfl rfl hdX9_isCalledAhead ⟨Nat.le_of_ble_eq_true rfl, Nat.le_of_ble_eq_true rfl⟩) rfl hl.1 rfl (Nat.le_of_ble_eq_true rfl) ⟨Nat.zero_le _, Nat.zero_le _⟩ dX9_calledNow_28 (fun H locs hW => ?_)
            refine lv_if_eq (tgt := 36) hx hb dX9_calledNow_31 (by decide) (fun c10 => ?_) (fun c10 => ?_)
            · replace h := ite_t h c10
              refine lv_iinc (v := x2 + 1) (lv' := [(2, .int (x2 + 1)), (0, .ref (ad 0)), (1, .int x1)]) hx hb dX9_calledNow_36 hl (k := 2) rfl rfl (by decide) rfl (fun ls hl => ?_)
              refine lv_goto (tgt := 4) hx hb dX9_calledNow_39 (by decide) ?_
              exact ih x1 (x2 + 1) _ _ _ r h hW (lv_sub hl [1, 2, 0] rfl) kk
            · replace h := ite_f h c10
              refine lv_iload_n hx hb dX9_calledNow_34 rfl (lv_at hl 2 rfl) ?_
              refine lv_istore_n (lv' := [(1, .int x2), (0, .ref (ad 0)), (2, .int x2)]) hx hb dX9_calledNow_35 rfl hl (by decide) rfl (fun ls hl => ?_)
              refine lv_iinc (v := x2 + 1) (lv' := [(2, .int (x2 + 1)), (1, .int x2), (0, .ref (ad 0))]) hx hb dX9_calledNow_36 hl (k := 2) rfl rfl (by decide) rfl (fun ls hl => ?_)
              refine lv_goto (tgt := 4) hx hb dX9_calledNow_39 (by decide) ?_
              exact ih x2 (x2 + 1) _ _ _ r h hW (lv_sub hl [2, 1, 0] rfl) kk
  obtain ⟨q1, hq2, h⟩ := bd_of h
  refine hL4 n (-1) 0  _ _ _ q1 hq2 hW (lv_sub hl [2, 1, 0] rfl) (fun H locs ls hW hl => ?_)
  refine lv_iload_n hx hb dX9_calledNow_42 rfl (lv_at hl 1 rfl) ?_
  obtain rfl := Option.some.inj h
  exact wd_iret hA hQ hC hr hk hW dX9_calledNow_43
def m_X9_liftEnds_L2 : Nat → St → Int32 → Option (St)
  | 0, _, _ => none
  | n + 1, T, x1 =>
    if (T.1 3) ≤ x1 then (some T) else (ck 0 63 ((m_X9_of T x1 (7 + (T.2.1 11 ((0 : Int32).toNatClampNeg)))).bind (fun r5 => if r5 = 0 then ((m_X9_sets T x1 6 1).bind (fun r8 => m_X9_liftEnds_L2 n r8 (x1 + 1))) else (m_X9_liftEnds_L2 n T (x1 + 1)))))
theorem m_X9_liftEnds_L2_0 (T : St) (x1 : Int32) : m_X9_liftEnds_L2 0 T x1 = none := rfl
theorem m_X9_liftEnds_L2_s {n : Nat} {T : St} {x1 : Int32} : m_X9_liftEnds_L2 (n + 1) T x1 =
    (if (T.1 3) ≤ x1 then (some T) else (ck 0 63 ((m_X9_of T x1 (7 + (T.2.1 11 ((0 : Int32).toNatClampNeg)))).bind (fun r5 => if r5 = 0 then ((m_X9_sets T x1 6 1).bind (fun r8 => m_X9_liftEnds_L2 n r8 (x1 + 1))) else (m_X9_liftEnds_L2 n T (x1 + 1)))))) := rfl
def m_X9_liftEnds (n : Nat) (T : St) : Option (St) :=
  (m_X9_liftEnds_L2 n T 0).bind (fun q1 => ck 0 63 (ck 0 63 (nm (sA q1 11 ((0 : Int32).toNatClampNeg) ((q1.2.1 11 ((0 : Int32).toNatClampNeg)) + 1)) (fun T12 => (m_X9_liftBegins n T12).bind (fun r14 => some r14)))))
set_option maxHeartbeats 4000000 in
set_option maxRecDepth 100000 in
theorem c_X9_liftEnds (l : Launch) (D : va_G) (cy : Nat → ClassId) (ad : Nat → Nat) (X : va_W) (n : Nat) (T : St) (r : (St)) (h : m_X9_liftEnds n T = some r) : CT l yX9_liftEnds (wu yX9_liftEnds cX9_liftEnds 2 none) 3 D cy [.ref (ad 0)] (wR ad cy T ++ X) (none) (wR ad cy r ++ X) := by
  refine CT.mk (cc := cX9_liftEnds) (maxL := 2) (ret := none) (own := RX9) (by decide) rfl rfl (Nat.le_of_ble_eq_true rfl) ?_
  intro p e s m args below meth c ls A Q hA hQ hC hr hk hW hl
  have hx := hC.1
  have hb := hC.2.1
  have hown := hC.2.2.2.1
  have hts := hC.2.2.2.2
  have hl : lv_has ls 2 [(0, .ref (ad 0))] := hl
  have f84 := hts _ (wu_in w_9_13)
  have i9 := (fun w h => wu_in (inc_9 w h) : ∀ w ∈ u_ws RX9 TX9 40, w ∈ (wu yX9_liftEnds cX9_liftEnds 2 none))
  have f32 := hts _ (wu_in w_5_10)
  unfold m_X9_liftEnds at h
  refine lv_iconst (v := 0) hx hb dX9_liftEnds_0 (by decide) ?_
  refine lv_istore_n (lv' := [(1, .int 0), (0, .ref (ad 0))]) hx hb dX9_liftEnds_1 rfl hl (by decide) rfl (fun ls hl => ?_)
  have hL2 : ∀ (n : Nat) (T : St) (x1 : Int32)  (H : Heap) (locs : List Loc) (ls : Array Slot) (r : (St)), m_X9_liftEnds_L2 n T x1 = some r → Wd D cy A s (wR ad cy T ++ X) H locs → lv_has ls 2 [(0, .ref (ad 0)), (1, .int x1)] → (∀ (H : Heap) (locs : List Loc) (ls : Array Slot), Wd D cy A s (wR ad cy r ++ X) H locs → lv_has ls 2 [(0, .ref (ad 0))] → W p l e (RM 3) s m args below meth c H locs 0 0 Q (F0 m 41 ls [])) → W p l e (RM 3) s m args below meth c H locs 0 0 Q (F0 m 2 ls []) := by
    intro n
    induction n with
    | zero =>
      intro T x1  H locs ls r h
      exact absurd (h.symm.trans (m_X9_liftEnds_L2_0 ..)) (by simp)
    | succ n ih =>
      intro T x1  H locs ls r h hW hl kk
      rw [m_X9_liftEnds_L2_s] at h
      refine lv_iload_n hx hb dX9_liftEnds_2 rfl (lv_at hl 1 rfl) ?_
      refine lv_aload_n hx hb dX9_liftEnds_3 rfl (lv_at hl 0 rfl) ?_
      refine wd_get hC i9 hW 0 wR_c0 rfl 3 (Nat.le_of_ble_eq_true rfl) f84 rfl rfl dX9_liftEnds_4 ?_
      refine lv_icmp_ge (tgt := 41) hx hb dX9_liftEnds_7 (by decide) (fun c3 => ?_) (fun c3 => ?_)
      · replace h := ite_t h c3
        obtain rfl := Option.some.inj h
        exact kk _ _ _ hW (lv_sub hl [0] rfl)
      · replace h := ite_f h c3
        refine lv_aload_n hx hb dX9_liftEnds_10 rfl (lv_at hl 0 rfl) ?_
        refine lv_iload_n hx hb dX9_liftEnds_11 rfl (lv_at hl 1 rfl) ?_
        refine lv_bipush (v := 7) hx hb dX9_liftEnds_12 (by decide) ?_
        refine lv_aload_n hx hb dX9_liftEnds_14 rfl (lv_at hl 0 rfl) ?_
        refine wd_get hC i9 hW 0 wR_c0 rfl 11 (Nat.le_of_ble_eq_true rfl) f32 rfl rfl dX9_liftEnds_15 ?_
        refine lv_iconst (v := 0) hx hb dX9_liftEnds_18 (by decide) ?_
        obtain ⟨hi4, h⟩ := ck_of h
        refine wd_iald hC hW 8 wR_c8 hi4 dX9_liftEnds_19 ?_
        refine lv_iadd hx hb dX9_liftEnds_20 ?_
        obtain ⟨r5, hr6, h⟩ := bd_of h
        refine wd_callV1 (As := [.int x1, .int (7 + (T.2.1 11 ((0 : Int32).toNatClampNeg)))]) hC hW 0 wR_c0 rfl (c_X9_of l D cy ad X T x1 (7 + (T.2.1 11 ((0 : Int32).toNatClampNeg))) r5 hr6) (cwV 2 hts (gu_V w_12_0 w_11_21 w_11_22 w_11_23 w_1_5) rfl rfl rfl hdX9_of ⟨Nat.le_of_ble_eq_true rfl, Nat.le_of_ble_eq_true rfl⟩) rfl hl.1 rfl (Nat.le_of_ble_eq_true rfl) ⟨Nat.zero_le _, Nat.zero_le _⟩ dX9_liftEnds_21 (fun H locs hW => ?_)
        refine lv_if_ne (tgt := 35) hx hb dX9_liftEnds_24 (by decide) (fun c7 => ?_) (fun c7 => ?_)
        · replace h := ite_f h c7
          refine lv_iinc (v := x1 + 1) (lv' := [(1, .int (x1 + 1)), (0, .ref (ad 0))]) hx hb dX9_liftEnds_35 hl (k := 1) rfl rfl (by decide) rfl (fun ls hl => ?_)
          refine lv_goto (tgt := 2) hx hb dX9_liftEnds_38 (by decide) ?_
          exact ih T (x1 + 1) _ _ _ r h hW (lv_sub hl [1, 0] rfl) kk
        · replace h := ite_t h c7
          refine lv_aload_n hx hb dX9_liftEnds_27 rfl (lv_at hl 0 rfl) ?_
          refine lv_iload_n hx hb dX9_liftEnds_28 rfl (lv_at hl 1 rfl) ?_
          refine lv_bipush (v := 6) hx hb dX9_liftEnds_29 (by decide) ?_
          refine lv_iconst (v := 1) hx hb dX9_liftEnds_31 (by decide) ?_
          obtain ⟨r8, hr9, h⟩ := bd_of h
          refine wd_callV0 (As := [.int x1, .int 6, .int 1]) hC hW 0 wR_c0 rfl (c_X9_sets l D cy ad X T x1 6 1 r8 hr9) (cwV 3 hts (gu_V w_12_8 w_12_5 w_12_6 w_12_7 w_1_5) rfl rfl rfl hdX9_sets ⟨Nat.le_of_ble_eq_true rfl, Nat.le_of_ble_eq_true rfl⟩) rfl hl.1 rfl (Nat.le_of_ble_eq_true rfl) ⟨Nat.zero_le _, Nat.zero_le _⟩ dX9_liftEnds_32 (fun H locs hW => ?_)
          refine lv_iinc (v := x1 + 1) (lv' := [(1, .int (x1 + 1)), (0, .ref (ad 0))]) hx hb dX9_liftEnds_35 hl (k := 1) rfl rfl (by decide) rfl (fun ls hl => ?_)
          refine lv_goto (tgt := 2) hx hb dX9_liftEnds_38 (by decide) ?_
          exact ih r8 (x1 + 1) _ _ _ r h hW (lv_sub hl [1, 0] rfl) kk
  obtain ⟨q1, hq2, h⟩ := bd_of h
  refine hL2 n T 0  _ _ _ q1 hq2 hW (lv_sub hl [1, 0] rfl) (fun H locs ls hW hl => ?_)
  refine lv_aload_n hx hb dX9_liftEnds_41 rfl (lv_at hl 0 rfl) ?_
  refine wd_get hC i9 hW 0 wR_c0 rfl 11 (Nat.le_of_ble_eq_true rfl) f32 rfl rfl dX9_liftEnds_42 ?_
  refine lv_iconst (v := 0) hx hb dX9_liftEnds_45 (by decide) ?_
  refine lv_dup2_11 hx hb dX9_liftEnds_46 rfl rfl ?_
  obtain ⟨hi10, h⟩ := ck_of h
  refine wd_iald hC hW 8 wR_c8 hi10 dX9_liftEnds_47 ?_
  refine lv_iconst (v := 1) hx hb dX9_liftEnds_48 (by decide) ?_
  refine lv_iadd hx hb dX9_liftEnds_49 ?_
  obtain ⟨hi11, h⟩ := ck_of h
  refine wd_iast hC hW 8 wR_c8 hi11 wR_t8 dX9_liftEnds_50 (fun H locs hW => ?_)
  obtain ⟨T12, e13, h⟩ := nm_of h
  replace hW := wq_T e13 hW
  refine lv_aload_n hx hb dX9_liftEnds_51 rfl (lv_at hl 0 rfl) ?_
  obtain ⟨r14, hr15, h⟩ := bd_of h
  refine wd_callV0 (As := []) hC hW 0 wR_c0 rfl (c_X9_liftBegins l D cy ad X n T12 r14 hr15) (cwV 0 hts (gu_V w_11_12 w_11_9 w_11_10 w_11_11 w_1_5) rfl rfl rfl hdX9_liftBegins ⟨Nat.le_of_ble_eq_true rfl, Nat.le_of_ble_eq_true rfl⟩) rfl hl.1 rfl (Nat.le_of_ble_eq_true rfl) ⟨Nat.zero_le _, Nat.zero_le _⟩ dX9_liftEnds_52 (fun H locs hW => ?_)
  obtain rfl := Option.some.inj h
  exact wd_vret hA hQ hC hr hk hW dX9_liftEnds_55
def m_X9_goesOn_L0 : Nat → St → Option (St)
  | 0, _ => none
  | n + 1, T =>
    if (T.1 3) ≤ 0 then (some T) else ((m_X9_isOver T).bind (fun r4 => if r4 = 0 then ((m_X9_calledNow n T).bind (fun r7 => if r7 = (-1) then (ck 1 63 (if (T.2.1 11 ((1 : Int32).toNatClampNeg)) = 2 then ((m_X9_liftEnds n T).bind (fun r18 => m_X9_goesOn_L0 n r18)) else (ck 1 63 (ck 1 63 (nm (sA T 11 ((1 : Int32).toNatClampNeg) ((T.2.1 11 ((1 : Int32).toNatClampNeg)) + 1)) (fun T14 => (m_X9_roundBegins n T14).bind (fun r16 => m_X9_goesOn_L0 n r16))))))) else (some T))) else (some T)))
theorem m_X9_goesOn_L0_0 (T : St) : m_X9_goesOn_L0 0 T = none := rfl
theorem m_X9_goesOn_L0_s {n : Nat} {T : St} : m_X9_goesOn_L0 (n + 1) T =
    (if (T.1 3) ≤ 0 then (some T) else ((m_X9_isOver T).bind (fun r4 => if r4 = 0 then ((m_X9_calledNow n T).bind (fun r7 => if r7 = (-1) then (ck 1 63 (if (T.2.1 11 ((1 : Int32).toNatClampNeg)) = 2 then ((m_X9_liftEnds n T).bind (fun r18 => m_X9_goesOn_L0 n r18)) else (ck 1 63 (ck 1 63 (nm (sA T 11 ((1 : Int32).toNatClampNeg) ((T.2.1 11 ((1 : Int32).toNatClampNeg)) + 1)) (fun T14 => (m_X9_roundBegins n T14).bind (fun r16 => m_X9_goesOn_L0 n r16))))))) else (some T))) else (some T)))) := rfl
def m_X9_goesOn (n : Nat) (T : St) : Option (St) :=
  (m_X9_goesOn_L0 n T).bind (fun q1 => some q1)
set_option maxHeartbeats 4000000 in
set_option maxRecDepth 100000 in
theorem c_X9_goesOn (l : Launch) (D : va_G) (cy : Nat → ClassId) (ad : Nat → Nat) (X : va_W) (n : Nat) (T : St) (r : (St)) (h : m_X9_goesOn n T = some r) : CT l yX9_goesOn (wu yX9_goesOn cX9_goesOn 1 none) 4 D cy [.ref (ad 0)] (wR ad cy T ++ X) (none) (wR ad cy r ++ X) := by
  refine CT.mk (cc := cX9_goesOn) (maxL := 1) (ret := none) (own := RX9) (by decide) rfl rfl (Nat.le_of_ble_eq_true rfl) ?_
  intro p e s m args below meth c ls A Q hA hQ hC hr hk hW hl
  have hx := hC.1
  have hb := hC.2.1
  have hown := hC.2.2.2.1
  have hts := hC.2.2.2.2
  have hl : lv_has ls 1 [(0, .ref (ad 0))] := hl
  have f84 := hts _ (wu_in w_9_13)
  have i9 := (fun w h => wu_in (inc_9 w h) : ∀ w ∈ u_ws RX9 TX9 40, w ∈ (wu yX9_goesOn cX9_goesOn 1 none))
  have f32 := hts _ (wu_in w_5_10)
  unfold m_X9_goesOn at h
  have hL0 : ∀ (n : Nat) (T : St)  (H : Heap) (locs : List Loc) (ls : Array Slot) (r : (St)), m_X9_goesOn_L0 n T = some r → Wd D cy A s (wR ad cy T ++ X) H locs → lv_has ls 1 [(0, .ref (ad 0))] → (∀ (H : Heap) (locs : List Loc) (ls : Array Slot), Wd D cy A s (wR ad cy r ++ X) H locs → lv_has ls 1 [(0, .ref (ad 0))] → W p l e (RM 4) s m args below meth c H locs 0 0 Q (F0 m 56 ls [])) → W p l e (RM 4) s m args below meth c H locs 0 0 Q (F0 m 0 ls []) := by
    intro n
    induction n with
    | zero =>
      intro T  H locs ls r h
      exact absurd (h.symm.trans (m_X9_goesOn_L0_0 ..)) (by simp)
    | succ n ih =>
      intro T  H locs ls r h hW hl kk
      rw [m_X9_goesOn_L0_s] at h
      refine lv_aload_n hx hb dX9_goesOn_0 rfl (lv_at hl 0 rfl) ?_
      refine wd_get hC i9 hW 0 wR_c0 rfl 3 (Nat.le_of_ble_eq_true rfl) f84 rfl rfl dX9_goesOn_1 ?_
      refine lv_if_le (tgt := 56) hx hb dX9_goesOn_4 (by decide) (fun c3 => ?_) (fun c3 => ?_)
      · replace h := ite_t h c3
        obtain rfl := Option.some.inj h
        exact kk _ _ _ hW (lv_sub hl [0] rfl)
      · replace h := ite_f h c3
        refine lv_aload_n hx hb dX9_goesOn_7 rfl (lv_at hl 0 rfl) ?_
        obtain ⟨r4, hr5, h⟩ := bd_of h
        refine wd_callV1 (As := []) hC hW 0 wR_c0 rfl (c_X9_isOver l D cy ad X T r4 hr5) (cwV 0 hts (gu_V w_11_16 w_11_13 w_11_14 w_11_15 w_1_5) rfl rfl rfl hdX9_isOver ⟨Nat.le_of_ble_eq_true rfl, Nat.le_of_ble_eq_true rfl⟩) rfl hl.1 rfl (Nat.le_of_ble_eq_true rfl) ⟨Nat.zero_le _, Nat.zero_le _⟩ dX9_goesOn_8 (fun H locs hW => ?_)
        refine lv_if_ne (tgt := 56) hx hb dX9_goesOn_11 (by decide) (fun c6 => ?_) (fun c6 => ?_)
        · replace h := ite_f h c6
          obtain rfl := Option.some.inj h
          exact kk _ _ _ hW (lv_sub hl [0] rfl)
        · replace h := ite_t h c6
          refine lv_aload_n hx hb dX9_goesOn_14 rfl (lv_at hl 0 rfl) ?_
          obtain ⟨r7, hr8, h⟩ := bd_of h
          refine wd_callV1 (As := []) hC hW 0 wR_c0 rfl (c_X9_calledNow l D cy ad X n T r7 hr8) (cwV 0 hts (gu_V w_19_6 w_19_3 w_19_4 w_19_5 w_1_5) rfl rfl rfl hdX9_calledNow ⟨Nat.le_of_ble_eq_true rfl, Nat.le_of_ble_eq_true rfl⟩) rfl hl.1 rfl (Nat.le_of_ble_eq_true rfl) ⟨Nat.zero_le _, Nat.zero_le _⟩ dX9_goesOn_15 (fun H locs hW => ?_)
          refine lv_iconst (v := (-1)) hx hb dX9_goesOn_18 (by decide) ?_
          refine lv_icmp_ne (tgt := 56) hx hb dX9_goesOn_19 (by decide) (fun c9 => ?_) (fun c9 => ?_)
          · replace h := ite_f h c9
            obtain rfl := Option.some.inj h
            exact kk _ _ _ hW (lv_sub hl [0] rfl)
          · replace h := ite_t h c9
            refine lv_aload_n hx hb dX9_goesOn_22 rfl (lv_at hl 0 rfl) ?_
            refine wd_get hC i9 hW 0 wR_c0 rfl 11 (Nat.le_of_ble_eq_true rfl) f32 rfl rfl dX9_goesOn_23 ?_
            refine lv_iconst (v := 1) hx hb dX9_goesOn_26 (by decide) ?_
            obtain ⟨hi10, h⟩ := ck_of h
            refine wd_iald hC hW 8 wR_c8 hi10 dX9_goesOn_27 ?_
            refine lv_iconst (v := 2) hx hb dX9_goesOn_28 (by decide) ?_
            refine lv_icmp_ne (tgt := 39) hx hb dX9_goesOn_29 (by decide) (fun c11 => ?_) (fun c11 => ?_)
            · replace h := ite_f h c11
              refine lv_aload_n hx hb dX9_goesOn_39 rfl (lv_at hl 0 rfl) ?_
              refine wd_get hC i9 hW 0 wR_c0 rfl 11 (Nat.le_of_ble_eq_true rfl) f32 rfl rfl dX9_goesOn_40 ?_
              refine lv_iconst (v := 1) hx hb dX9_goesOn_43 (by decide) ?_
              refine lv_dup2_11 hx hb dX9_goesOn_44 rfl rfl ?_
              obtain ⟨hi12, h⟩ := ck_of h
              refine wd_iald hC hW 8 wR_c8 hi12 dX9_goesOn_45 ?_
              refine lv_iconst (v := 1) hx hb dX9_goesOn_46 (by decide) ?_
              refine lv_iadd hx hb dX9_goesOn_47 ?_
              obtain ⟨hi13, h⟩ := ck_of h
              refine wd_iast hC hW 8 wR_c8 hi13 wR_t8 dX9_goesOn_48 (fun H locs hW => ?_)
              obtain ⟨T14, e15, h⟩ := nm_of h
              replace hW := wq_T e15 hW
              refine lv_aload_n hx hb dX9_goesOn_49 rfl (lv_at hl 0 rfl) ?_
              obtain ⟨r16, hr17, h⟩ := bd_of h
              refine wd_callV0 (As := []) hC hW 0 wR_c0 rfl (c_X9_roundBegins l D cy ad X n T14 r16 hr17) (cwV 0 hts (gu_V w_12_12 w_12_9 w_12_10 w_12_11 w_1_5) rfl rfl rfl hdX9_roundBegins ⟨Nat.le_of_ble_eq_true rfl, Nat.le_of_ble_eq_true rfl⟩) rfl hl.1 rfl (Nat.le_of_ble_eq_true rfl) ⟨Nat.zero_le _, Nat.zero_le _⟩ dX9_goesOn_50 (fun H locs hW => ?_)
              refine lv_goto (tgt := 0) hx hb dX9_goesOn_53 (by decide) ?_
              exact ih r16 _ _ _ r h hW (lv_sub hl [0] rfl) kk
            · replace h := ite_t h c11
              refine lv_aload_n hx hb dX9_goesOn_32 rfl (lv_at hl 0 rfl) ?_
              obtain ⟨r18, hr19, h⟩ := bd_of h
              refine wd_callV0 (As := []) hC hW 0 wR_c0 rfl (c_X9_liftEnds l D cy ad X n T r18 hr19) (cwV 0 hts (gu_V w_22_1 w_21_22 w_21_23 w_22_0 w_1_5) rfl rfl rfl hdX9_liftEnds ⟨Nat.le_of_ble_eq_true rfl, Nat.le_of_ble_eq_true rfl⟩) rfl hl.1 rfl (Nat.le_of_ble_eq_true rfl) ⟨Nat.zero_le _, Nat.zero_le _⟩ dX9_goesOn_33 (fun H locs hW => ?_)
              refine lv_goto (tgt := 0) hx hb dX9_goesOn_36 (by decide) ?_
              exact ih r18 _ _ _ r h hW (lv_sub hl [0] rfl) kk
  obtain ⟨q1, hq2, h⟩ := bd_of h
  refine hL0 n T  _ _ _ q1 hq2 hW (lv_sub hl [0] rfl) (fun H locs ls hW hl => ?_)
  obtain rfl := Option.some.inj h
  exact wd_vret hA hQ hC hr hk hW dX9_goesOn_56
def m_X9_asksThen (T : St) (p0 : Int32) (p1 : Int32) (p2 : Int32) (p3 : Int32) (p4 : Int32) : Option (Int32) :=
  ((if p4 = 0 then (some 2) else (some 1) : Option (Int32))).bind (fun q2 => (m_X9_planOf T p0 p1 q2).bind (fun r4 => if p2 = 2 then (some 0) else (if (p3 + r4) ≤ 40 then (some (p3 + r4)) else (some 0))))
set_option maxHeartbeats 4000000 in
set_option maxRecDepth 100000 in
theorem c_X9_asksThen (l : Launch) (D : va_G) (cy : Nat → ClassId) (ad : Nat → Nat) (X : va_W) (T : St) (p0 : Int32) (p1 : Int32) (p2 : Int32) (p3 : Int32) (p4 : Int32) (r : (Int32)) (h : m_X9_asksThen T p0 p1 p2 p3 p4 = some r) : CT l yX9_asksThen (wu yX9_asksThen cX9_asksThen 7 (some .int)) 1 D cy [.ref (ad 0), .int p0, .int p1, .int p2, .int p3, .int p4] (wR ad cy T ++ X) (some (.int r)) (wR ad cy T ++ X) := by
  refine CT.mk (cc := cX9_asksThen) (maxL := 7) (ret := (some .int)) (own := RX9) (by decide) rfl rfl (Nat.le_of_ble_eq_true rfl) ?_
  intro p e s m args below meth c ls A Q hA hQ hC hr hk hW hl
  have hx := hC.1
  have hb := hC.2.1
  have hown := hC.2.2.2.1
  have hts := hC.2.2.2.2
  have hl : lv_has ls 7 [(0, .ref (ad 0)), (1, .int p0), (2, .int p1), (3, .int p2), (4, .int p3), (5, .int p4)] := hl
  unfold m_X9_asksThen at h
  refine lv_iload hx hb dX9_asksThen_0 (lv_at hl 4 rfl) ?_
  refine lv_aload_n hx hb dX9_asksThen_2 rfl (lv_at hl 0 rfl) ?_
  refine lv_iload_n hx hb dX9_asksThen_3 rfl (lv_at hl 1 rfl) ?_
  refine lv_iload_n hx hb dX9_asksThen_4 rfl (lv_at hl 2 rfl) ?_
  refine lv_iload hx hb dX9_asksThen_5 (lv_at hl 5 rfl) ?_
  obtain ⟨q2, hq3, h⟩ := bd_of h
  have hJ15 : ∀ (H : Heap) (locs : List Loc) (ls : Array Slot), Wd D cy A s (wR ad cy T ++ X) H locs → lv_has ls 7 [(0, .ref (ad 0)), (1, .int p0), (2, .int p1), (3, .int p2), (4, .int p3), (5, .int p4)] → W p l e (RM 1) s m args below meth c H locs 0 0 Q (F0 m 15 ls [.int q2, .int p1, .int p0, .ref (ad 0), .int p3]) := by
    intro H locs ls hW hl
    obtain ⟨r4, hr5, h⟩ := bd_of h
    refine wd_callV1 (As := [.int p0, .int p1, .int q2]) hC hW 0 wR_c0 rfl (c_X9_planOf l D cy ad X T p0 p1 q2 r4 hr5) (cwV 3 hts (gu_V w_12_4 w_12_1 w_12_2 w_12_3 w_1_5) rfl rfl rfl hdX9_planOf ⟨Nat.le_of_ble_eq_true rfl, Nat.le_of_ble_eq_true rfl⟩) rfl hl.1 rfl (Nat.le_of_ble_eq_true rfl) ⟨Nat.zero_le _, Nat.zero_le _⟩ dX9_asksThen_15 (fun H locs hW => ?_)
    refine lv_iadd hx hb dX9_asksThen_18 ?_
    refine lv_istore (lv' := [(6, .int (p3 + r4)), (0, .ref (ad 0)), (1, .int p0), (2, .int p1), (3, .int p2), (4, .int p3), (5, .int p4)]) hx hb dX9_asksThen_19 hl (by decide) rfl (fun ls hl => ?_)
    refine lv_iload_n hx hb dX9_asksThen_21 rfl (lv_at hl 4 rfl) ?_
    refine lv_iconst (v := 2) hx hb dX9_asksThen_22 (by decide) ?_
    refine lv_icmp_eq (tgt := 33) hx hb dX9_asksThen_23 (by decide) (fun c6 => ?_) (fun c6 => ?_)
    · replace h := ite_t h c6
      refine lv_iconst (v := 0) hx hb dX9_asksThen_33 (by decide) ?_
      refine lv_goto (tgt := 39) hx hb dX9_asksThen_34 (by decide) ?_
      obtain rfl := Option.some.inj h
      exact wd_iret hA hQ hC hr hk hW dX9_asksThen_39
    · replace h := ite_f h c6
      refine lv_iload hx hb dX9_asksThen_26 (lv_at hl 0 rfl) ?_
      refine lv_bipush (v := 40) hx hb dX9_asksThen_28 (by decide) ?_
      refine lv_icmp_le (tgt := 37) hx hb dX9_asksThen_30 (by decide) (fun c7 => ?_) (fun c7 => ?_)
      · replace h := ite_t h c7
        refine lv_iload hx hb dX9_asksThen_37 (lv_at hl 0 rfl) ?_
        obtain rfl := Option.some.inj h
        exact wd_iret hA hQ hC hr hk hW dX9_asksThen_39
      · replace h := ite_f h c7
        refine lv_iconst (v := 0) hx hb dX9_asksThen_33 (by decide) ?_
        refine lv_goto (tgt := 39) hx hb dX9_asksThen_34 (by decide) ?_
        obtain rfl := Option.some.inj h
        exact wd_iret hA hQ hC hr hk hW dX9_asksThen_39
  replace h := hq3
  refine lv_if_eq (tgt := 14) hx hb dX9_asksThen_7 (by decide) (fun c1 => ?_) (fun c1 => ?_)
  · replace h := ite_t h c1
    refine lv_iconst (v := 2) hx hb dX9_asksThen_14 (by decide) ?_
    obtain rfl := Option.some.inj h
    exact hJ15 _ _ _ hW (lv_sub hl [0, 1, 2, 3, 4, 5] rfl)
  · replace h := ite_f h c1
    refine lv_iconst (v := 1) hx hb dX9_asksThen_10 (by decide) ?_
    refine lv_goto (tgt := 15) hx hb dX9_asksThen_11 (by decide) ?_
    obtain rfl := Option.some.inj h
    exact hJ15 _ _ _ hW (lv_sub hl [0, 1, 2, 3, 4, 5] rfl)
def m_X9_doesTry (n : Nat) (T : St) (p0 : Int32) (p1 : Int32) : Option (St) :=
  ck 0 63 ((m_X9_of T p0 0).bind (fun r2 => ck 1 63 ((m_X9_asksThen T p0 (T.2.1 11 ((0 : Int32).toNatClampNeg)) (T.2.1 11 ((1 : Int32).toNatClampNeg)) r2 p1).bind (fun r5 => nm (sI T 16 r5) (fun T7 => ck 2 63 (ck 2 63 (nm (sA T7 11 ((2 : Int32).toNatClampNeg) (mx (T7.2.1 11 ((2 : Int32).toNatClampNeg)) r2)) (fun T11 => (m_X9_sets T11 p0 1 1).bind (fun r13 => (m_X9_sets r13 p0 2 r2).bind (fun r15 => (m_X9_flag r15 p1).bind (fun r17 => (m_X9_sets r15 p0 3 r17).bind (fun r19 => (m_X9_sets r19 p0 0 (r19.1 16)).bind (fun r21 => ((if p1 = 0 then ((m_X9_of r21 p0 4).bind (fun r48 => (m_X9_sets r21 p0 4 (r48 + 1)).bind (fun r50 => some r50))) else ((m_X9_of r21 p0 (7 + (T.2.1 11 ((0 : Int32).toNatClampNeg)))).bind (fun r52 => (m_X9_sets r21 p0 (7 + (T.2.1 11 ((0 : Int32).toNatClampNeg))) (mx r2 r52)).bind (fun r54 => some r54))) : Option (St))).bind (fun q24 => ck (4 * (q24.1 13)) 240 (nm (sA q24 15 (4 * (q24.1 13)).toNatClampNeg p0) (fun T27 => ck ((4 * (T27.1 13)) + 1) 240 (nm (sA T27 15 ((4 * (T27.1 13)) + 1).toNatClampNeg (T.2.1 11 ((0 : Int32).toNatClampNeg))) (fun T30 => ck ((4 * (T30.1 13)) + 2) 240 (nm (sA T30 15 ((4 * (T30.1 13)) + 2).toNatClampNeg r2) (fun T33 => (m_X9_flag T33 p1).bind (fun r35 => ck ((4 * (T33.1 13)) + 3) 240 (nm (sA T33 15 ((4 * (T33.1 13)) + 3).toNatClampNeg r35) (fun T38 => nm (sI T38 13 ((T38.1 13) + 1)) (fun T40 => (m_X9_flag T40 p1).bind (fun r42 => nm (sI T40 14 ((T40.1 14) + r42)) (fun T44 => (m_X9_goesOn n T44).bind (fun r46 => some r46)))))))))))))))))))))))))))
set_option maxHeartbeats 4000000 in
set_option maxRecDepth 100000 in
theorem c_X9_doesTry (l : Launch) (D : va_G) (cy : Nat → ClassId) (ad : Nat → Nat) (X : va_W) (n : Nat) (T : St) (p0 : Int32) (p1 : Int32) (r : (St)) (h : m_X9_doesTry n T p0 p1 = some r) : CT l yX9_doesTry (wu yX9_doesTry cX9_doesTry 5 none) 5 D cy [.ref (ad 0), .int p0, .int p1] (wR ad cy T ++ X) (none) (wR ad cy r ++ X) := by
  refine CT.mk (cc := cX9_doesTry) (maxL := 5) (ret := none) (own := RX9) (by decide) rfl rfl (Nat.le_of_ble_eq_true rfl) ?_
  intro p e s m args below meth c ls A Q hA hQ hC hr hk hW hl
  have hx := hC.1
  have hb := hC.2.1
  have hown := hC.2.2.2.1
  have hts := hC.2.2.2.2
  have hl : lv_has ls 5 [(0, .ref (ad 0)), (1, .int p0), (2, .int p1)] := hl
  have f32 := hts _ (wu_in w_5_10)
  have i9 := (fun w h => wu_in (inc_9 w h) : ∀ w ∈ u_ws RX9 TX9 40, w ∈ (wu yX9_doesTry cX9_doesTry 5 none))
  have f157 := hts _ (wu_in w_21_9)
  have ml100 := hts _ (wu_in w_16_0)
  have msmax := hts _ (wu_in w_15_13)
  have mi := hts _ (wu_in w_15_14)
  have mcmax := hts _ (wu_in w_15_15)
  have f38 := hts _ (wu_in w_5_12)
  have f131 := hts _ (wu_in w_11_7)
  have f134 := hts _ (wu_in w_11_8)
  unfold m_X9_doesTry at h
  refine lv_aload_n hx hb dX9_doesTry_0 rfl (lv_at hl 0 rfl) ?_
  refine wd_get hC i9 hW 0 wR_c0 rfl 11 (Nat.le_of_ble_eq_true rfl) f32 rfl rfl dX9_doesTry_1 ?_
  refine lv_iconst (v := 0) hx hb dX9_doesTry_4 (by decide) ?_
  obtain ⟨hi1, h⟩ := ck_of h
  refine wd_iald hC hW 8 wR_c8 hi1 dX9_doesTry_5 ?_
  refine lv_istore_n (lv' := [(3, .int (T.2.1 11 ((0 : Int32).toNatClampNeg))), (0, .ref (ad 0)), (1, .int p0), (2, .int p1)]) hx hb dX9_doesTry_6 rfl hl (by decide) rfl (fun ls hl => ?_)
  refine lv_aload_n hx hb dX9_doesTry_7 rfl (lv_at hl 1 rfl) ?_
  refine lv_iload_n hx hb dX9_doesTry_8 rfl (lv_at hl 2 rfl) ?_
  refine lv_iconst (v := 0) hx hb dX9_doesTry_9 (by decide) ?_
  obtain ⟨r2, hr3, h⟩ := bd_of h
  refine wd_callV1 (As := [.int p0, .int 0]) hC hW 0 wR_c0 rfl (c_X9_of l D cy ad X T p0 0 r2 hr3) (cwV 2 hts (gu_V w_12_0 w_11_21 w_11_22 w_11_23 w_1_5) rfl rfl rfl hdX9_of ⟨Nat.le_of_ble_eq_true rfl, Nat.le_of_ble_eq_true rfl⟩) rfl hl.1 rfl (Nat.le_of_ble_eq_true rfl) ⟨Nat.zero_le _, Nat.zero_le _⟩ dX9_doesTry_10 (fun H locs hW => ?_)
  refine lv_istore (lv' := [(4, .int r2), (3, .int (T.2.1 11 ((0 : Int32).toNatClampNeg))), (0, .ref (ad 0)), (1, .int p0), (2, .int p1)]) hx hb dX9_doesTry_13 hl (by decide) rfl (fun ls hl => ?_)
  refine lv_aload_n hx hb dX9_doesTry_15 rfl (lv_at hl 2 rfl) ?_
  refine lv_aload_n hx hb dX9_doesTry_16 rfl (lv_at hl 2 rfl) ?_
  refine lv_iload_n hx hb dX9_doesTry_17 rfl (lv_at hl 3 rfl) ?_
  refine lv_iload_n hx hb dX9_doesTry_18 rfl (lv_at hl 1 rfl) ?_
  refine lv_aload_n hx hb dX9_doesTry_19 rfl (lv_at hl 2 rfl) ?_
  refine wd_get hC i9 hW 0 wR_c0 rfl 11 (Nat.le_of_ble_eq_true rfl) f32 rfl rfl dX9_doesTry_20 ?_
  refine lv_iconst (v := 1) hx hb dX9_doesTry_23 (by decide) ?_
  obtain ⟨hi4, h⟩ := ck_of h
  refine wd_iald hC hW 8 wR_c8 hi4 dX9_doesTry_24 ?_
  refine lv_iload hx hb dX9_doesTry_25 (lv_at hl 0 rfl) ?_
  refine lv_iload_n hx hb dX9_doesTry_27 rfl (lv_at hl 4 rfl) ?_
  obtain ⟨r5, hr6, h⟩ := bd_of h
  refine wd_callV1 (As := [.int p0, .int (T.2.1 11 ((0 : Int32).toNatClampNeg)), .int (T.2.1 11 ((1 : Int32).toNatClampNeg)), .int r2, .int p1]) hC hW 0 wR_c0 rfl (c_X9_asksThen l D cy ad X T p0 (T.2.1 11 ((0 : Int32).toNatClampNeg)) (T.2.1 11 ((1 : Int32).toNatClampNeg)) r2 p1 r5 hr6) (cwV 5 hts (gu_V w_21_17 w_21_14 w_21_15 w_21_16 w_1_5) rfl rfl rfl hdX9_asksThen ⟨Nat.le_of_ble_eq_true rfl, Nat.le_of_ble_eq_true rfl⟩) rfl hl.1 rfl (Nat.le_of_ble_eq_true rfl) ⟨Nat.zero_le _, Nat.zero_le _⟩ dX9_doesTry_28 (fun H locs hW => ?_)
  refine wd_put hC i9 tyX9_ok nmX9 hW 0 wR_c0 rfl 16 (Nat.le_of_ble_eq_true rfl) f157 rfl rfl rfl rfl (Nat.le_of_ble_eq_true rfl) wR_s0_16 dX9_doesTry_31 (fun H locs hW => ?_)
  obtain ⟨T7, e8, h⟩ := nm_of h
  replace hW := wq_T e8 hW
  refine lv_aload_n hx hb dX9_doesTry_34 rfl (lv_at hl 2 rfl) ?_
  refine wd_get hC i9 hW 0 wR_c0 rfl 11 (Nat.le_of_ble_eq_true rfl) f32 rfl rfl dX9_doesTry_35 ?_
  refine lv_iconst (v := 2) hx hb dX9_doesTry_38 (by decide) ?_
  refine lv_aload_n hx hb dX9_doesTry_39 rfl (lv_at hl 2 rfl) ?_
  refine wd_get hC i9 hW 0 wR_c0 rfl 11 (Nat.le_of_ble_eq_true rfl) f32 rfl rfl dX9_doesTry_40 ?_
  refine lv_iconst (v := 2) hx hb dX9_doesTry_43 (by decide) ?_
  obtain ⟨hi9, h⟩ := ck_of h
  refine wd_iald hC hW 8 wR_c8 hi9 dX9_doesTry_44 ?_
  refine lv_iload hx hb dX9_doesTry_45 (lv_at hl 0 rfl) ?_
  refine wd_max hC hl.1 ml100 msmax mi mcmax (Nat.le_of_ble_eq_true rfl) (Nat.le_of_ble_eq_true rfl) (Nat.zero_le _) (Nat.zero_le _) dX9_doesTry_47 ?_
  obtain ⟨hi10, h⟩ := ck_of h
  refine wd_iast hC hW 8 wR_c8 hi10 wR_t8 dX9_doesTry_50 (fun H locs hW => ?_)
  obtain ⟨T11, e12, h⟩ := nm_of h
  replace hW := wq_T e12 hW
  refine lv_aload_n hx hb dX9_doesTry_51 rfl (lv_at hl 2 rfl) ?_
  refine lv_iload_n hx hb dX9_doesTry_52 rfl (lv_at hl 3 rfl) ?_
  refine lv_iconst (v := 1) hx hb dX9_doesTry_53 (by decide) ?_
  refine lv_iconst (v := 1) hx hb dX9_doesTry_54 (by decide) ?_
  obtain ⟨r13, hr14, h⟩ := bd_of h
  refine wd_callV0 (As := [.int p0, .int 1, .int 1]) hC hW 0 wR_c0 rfl (c_X9_sets l D cy ad X T11 p0 1 1 r13 hr14) (cwV 3 hts (gu_V w_12_8 w_12_5 w_12_6 w_12_7 w_1_5) rfl rfl rfl hdX9_sets ⟨Nat.le_of_ble_eq_true rfl, Nat.le_of_ble_eq_true rfl⟩) rfl hl.1 rfl (Nat.le_of_ble_eq_true rfl) ⟨Nat.zero_le _, Nat.zero_le _⟩ dX9_doesTry_55 (fun H locs hW => ?_)
  refine lv_aload_n hx hb dX9_doesTry_58 rfl (lv_at hl 2 rfl) ?_
  refine lv_iload_n hx hb dX9_doesTry_59 rfl (lv_at hl 3 rfl) ?_
  refine lv_iconst (v := 2) hx hb dX9_doesTry_60 (by decide) ?_
  refine lv_iload hx hb dX9_doesTry_61 (lv_at hl 0 rfl) ?_
  obtain ⟨r15, hr16, h⟩ := bd_of h
  refine wd_callV0 (As := [.int p0, .int 2, .int r2]) hC hW 0 wR_c0 rfl (c_X9_sets l D cy ad X r13 p0 2 r2 r15 hr16) (cwV 3 hts (gu_V w_12_8 w_12_5 w_12_6 w_12_7 w_1_5) rfl rfl rfl hdX9_sets ⟨Nat.le_of_ble_eq_true rfl, Nat.le_of_ble_eq_true rfl⟩) rfl hl.1 rfl (Nat.le_of_ble_eq_true rfl) ⟨Nat.zero_le _, Nat.zero_le _⟩ dX9_doesTry_63 (fun H locs hW => ?_)
  refine lv_aload_n hx hb dX9_doesTry_66 rfl (lv_at hl 2 rfl) ?_
  refine lv_iload_n hx hb dX9_doesTry_67 rfl (lv_at hl 3 rfl) ?_
  refine lv_iconst (v := 3) hx hb dX9_doesTry_68 (by decide) ?_
  refine lv_iload_n hx hb dX9_doesTry_69 rfl (lv_at hl 4 rfl) ?_
  obtain ⟨r17, hr18, h⟩ := bd_of h
  refine wd_callS1 (As := [.int p1]) hC hW (c_X9_flag l D cy ad X r15 p1 r17 hr18) (va_cwS 1 hts (gu_S w_17_18 w_17_16 w_17_17 w_1_5) rfl rfl rfl hdX9_flag ⟨Nat.le_of_ble_eq_true rfl, Nat.le_of_ble_eq_true rfl⟩) rfl hl.1 rfl (Nat.le_of_ble_eq_true rfl) ⟨Nat.zero_le _, Nat.zero_le _⟩ dX9_doesTry_70 (fun H locs hW => ?_)
  obtain ⟨r19, hr20, h⟩ := bd_of h
  refine wd_callV0 (As := [.int p0, .int 3, .int r17]) hC hW 0 wR_c0 rfl (c_X9_sets l D cy ad X r15 p0 3 r17 r19 hr20) (cwV 3 hts (gu_V w_12_8 w_12_5 w_12_6 w_12_7 w_1_5) rfl rfl rfl hdX9_sets ⟨Nat.le_of_ble_eq_true rfl, Nat.le_of_ble_eq_true rfl⟩) rfl hl.1 rfl (Nat.le_of_ble_eq_true rfl) ⟨Nat.zero_le _, Nat.zero_le _⟩ dX9_doesTry_73 (fun H locs hW => ?_)
  refine lv_aload_n hx hb dX9_doesTry_76 rfl (lv_at hl 2 rfl) ?_
  refine lv_iload_n hx hb dX9_doesTry_77 rfl (lv_at hl 3 rfl) ?_
  refine lv_iconst (v := 0) hx hb dX9_doesTry_78 (by decide) ?_
  refine lv_aload_n hx hb dX9_doesTry_79 rfl (lv_at hl 2 rfl) ?_
  refine wd_get hC i9 hW 0 wR_c0 rfl 16 (Nat.le_of_ble_eq_true rfl) f157 rfl rfl dX9_doesTry_80 ?_
  obtain ⟨r21, hr22, h⟩ := bd_of h
  refine wd_callV0 (As := [.int p0, .int 0, .int (r19.1 16)]) hC hW 0 wR_c0 rfl (c_X9_sets l D cy ad X r19 p0 0 (r19.1 16) r21 hr22) (cwV 3 hts (gu_V w_12_8 w_12_5 w_12_6 w_12_7 w_1_5) rfl rfl rfl hdX9_sets ⟨Nat.le_of_ble_eq_true rfl, Nat.le_of_ble_eq_true rfl⟩) rfl hl.1 rfl (Nat.le_of_ble_eq_true rfl) ⟨Nat.zero_le _, Nat.zero_le _⟩ dX9_doesTry_83 (fun H locs hW => ?_)
  refine lv_iload_n hx hb dX9_doesTry_86 rfl (lv_at hl 4 rfl) ?_
  obtain ⟨q24, hq25, h⟩ := bd_of h
  have hJ130 : ∀ (H : Heap) (locs : List Loc) (ls : Array Slot), Wd D cy A s (wR ad cy q24 ++ X) H locs → lv_has ls 5 [(4, .int r2), (3, .int (T.2.1 11 ((0 : Int32).toNatClampNeg))), (0, .ref (ad 0)), (1, .int p0), (2, .int p1)] → W p l e (RM 5) s m args below meth c H locs 0 0 Q (F0 m 130 ls []) := by
    intro H locs ls hW hl
    refine lv_aload_n hx hb dX9_doesTry_130 rfl (lv_at hl 2 rfl) ?_
    refine wd_get hC i9 hW 0 wR_c0 rfl 15 (Nat.le_of_ble_eq_true rfl) f38 rfl rfl dX9_doesTry_131 ?_
    refine lv_iconst (v := 4) hx hb dX9_doesTry_134 (by decide) ?_
    refine lv_aload_n hx hb dX9_doesTry_135 rfl (lv_at hl 2 rfl) ?_
    refine wd_get hC i9 hW 0 wR_c0 rfl 13 (Nat.le_of_ble_eq_true rfl) f131 rfl rfl dX9_doesTry_136 ?_
    refine lv_imul hx hb dX9_doesTry_139 ?_
    refine lv_iload_n hx hb dX9_doesTry_140 rfl (lv_at hl 3 rfl) ?_
    obtain ⟨hi26, h⟩ := ck_of h
    refine wd_iast hC hW 10 wR_c10 hi26 wR_t10 dX9_doesTry_141 (fun H locs hW => ?_)
    obtain ⟨T27, e28, h⟩ := nm_of h
    replace hW := wq_T e28 hW
    refine lv_aload_n hx hb dX9_doesTry_142 rfl (lv_at hl 2 rfl) ?_
    refine wd_get hC i9 hW 0 wR_c0 rfl 15 (Nat.le_of_ble_eq_true rfl) f38 rfl rfl dX9_doesTry_143 ?_
    refine lv_iconst (v := 4) hx hb dX9_doesTry_146 (by decide) ?_
    refine lv_aload_n hx hb dX9_doesTry_147 rfl (lv_at hl 2 rfl) ?_
    refine wd_get hC i9 hW 0 wR_c0 rfl 13 (Nat.le_of_ble_eq_true rfl) f131 rfl rfl dX9_doesTry_148 ?_
    refine lv_imul hx hb dX9_doesTry_151 ?_
    refine lv_iconst (v := 1) hx hb dX9_doesTry_152 (by decide) ?_
    refine lv_iadd hx hb dX9_doesTry_153 ?_
    refine lv_iload_n hx hb dX9_doesTry_154 rfl (lv_at hl 1 rfl) ?_
    obtain ⟨hi29, h⟩ := ck_of h
    refine wd_iast hC hW 10 wR_c10 hi29 wR_t10 dX9_doesTry_155 (fun H locs hW => ?_)
    obtain ⟨T30, e31, h⟩ := nm_of h
    replace hW := wq_T e31 hW
    refine lv_aload_n hx hb dX9_doesTry_156 rfl (lv_at hl 2 rfl) ?_
    refine wd_get hC i9 hW 0 wR_c0 rfl 15 (Nat.le_of_ble_eq_true rfl) f38 rfl rfl dX9_doesTry_157 ?_
    refine lv_iconst (v := 4) hx hb dX9_doesTry_160 (by decide) ?_
    refine lv_aload_n hx hb dX9_doesTry_161 rfl (lv_at hl 2 rfl) ?_
    refine wd_get hC i9 hW 0 wR_c0 rfl 13 (Nat.le_of_ble_eq_true rfl) f131 rfl rfl dX9_doesTry_162 ?_
    refine lv_imul hx hb dX9_doesTry_165 ?_
    refine lv_iconst (v := 2) hx hb dX9_doesTry_166 (by decide) ?_
    refine lv_iadd hx hb dX9_doesTry_167 ?_
    refine lv_iload hx hb dX9_doesTry_168 (lv_at hl 0 rfl) ?_
    obtain ⟨hi32, h⟩ := ck_of h
    refine wd_iast hC hW 10 wR_c10 hi32 wR_t10 dX9_doesTry_170 (fun H locs hW => ?_)
    obtain ⟨T33, e34, h⟩ := nm_of h
    replace hW := wq_T e34 hW
    refine lv_aload_n hx hb dX9_doesTry_171 rfl (lv_at hl 2 rfl) ?_
    refine wd_get hC i9 hW 0 wR_c0 rfl 15 (Nat.le_of_ble_eq_true rfl) f38 rfl rfl dX9_doesTry_172 ?_
    refine lv_iconst (v := 4) hx hb dX9_doesTry_175 (by decide) ?_
    refine lv_aload_n hx hb dX9_doesTry_176 rfl (lv_at hl 2 rfl) ?_
    refine wd_get hC i9 hW 0 wR_c0 rfl 13 (Nat.le_of_ble_eq_true rfl) f131 rfl rfl dX9_doesTry_177 ?_
    refine lv_imul hx hb dX9_doesTry_180 ?_
    refine lv_iconst (v := 3) hx hb dX9_doesTry_181 (by decide) ?_
    refine lv_iadd hx hb dX9_doesTry_182 ?_
    refine lv_iload_n hx hb dX9_doesTry_183 rfl (lv_at hl 4 rfl) ?_
    obtain ⟨r35, hr36, h⟩ := bd_of h
    refine wd_callS1 (As := [.int p1]) hC hW (c_X9_flag l D cy ad X T33 p1 r35 hr36) (va_cwS 1 hts (gu_S w_17_18 w_17_16 w_17_17 w_1_5) rfl rfl rfl hdX9_flag ⟨Nat.le_of_ble_eq_true rfl, Nat.le_of_ble_eq_true rfl⟩) rfl hl.1 rfl (Nat.le_of_ble_eq_true rfl) ⟨Nat.zero_le _, Nat.zero_le _⟩ dX9_doesTry_184 (fun H locs hW => ?_)
    obtain ⟨hi37, h⟩ := ck_of h
    refine wd_iast hC hW 10 wR_c10 hi37 wR_t10 dX9_doesTry_187 (fun H locs hW => ?_)
    obtain ⟨T38, e39, h⟩ := nm_of h
    replace hW := wq_T e39 hW
    refine lv_aload_n hx hb dX9_doesTry_188 rfl (lv_at hl 2 rfl) ?_
    refine lv_dup hx hb dX9_doesTry_189 rfl ?_
    refine wd_get hC i9 hW 0 wR_c0 rfl 13 (Nat.le_of_ble_eq_true rfl) f131 rfl rfl dX9_doesTry_190 ?_
    refine lv_iconst (v := 1) hx hb dX9_doesTry_193 (by decide) ?_
    refine lv_iadd hx hb dX9_doesTry_194 ?_
    refine wd_put hC i9 tyX9_ok nmX9 hW 0 wR_c0 rfl 13 (Nat.le_of_ble_eq_true rfl) f131 rfl rfl rfl rfl (Nat.le_of_ble_eq_true rfl) wR_s0_13 dX9_doesTry_195 (fun H locs hW => ?_)
    obtain ⟨T40, e41, h⟩ := nm_of h
    replace hW := wq_T e41 hW
    refine lv_aload_n hx hb dX9_doesTry_198 rfl (lv_at hl 2 rfl) ?_
    refine lv_dup hx hb dX9_doesTry_199 rfl ?_
    refine wd_get hC i9 hW 0 wR_c0 rfl 14 (Nat.le_of_ble_eq_true rfl) f134 rfl rfl dX9_doesTry_200 ?_
    refine lv_iload_n hx hb dX9_doesTry_203 rfl (lv_at hl 4 rfl) ?_
    obtain ⟨r42, hr43, h⟩ := bd_of h
    refine wd_callS1 (As := [.int p1]) hC hW (c_X9_flag l D cy ad X T40 p1 r42 hr43) (va_cwS 1 hts (gu_S w_17_18 w_17_16 w_17_17 w_1_5) rfl rfl rfl hdX9_flag ⟨Nat.le_of_ble_eq_true rfl, Nat.le_of_ble_eq_true rfl⟩) rfl hl.1 rfl (Nat.le_of_ble_eq_true rfl) ⟨Nat.zero_le _, Nat.zero_le _⟩ dX9_doesTry_204 (fun H locs hW => ?_)
    refine lv_iadd hx hb dX9_doesTry_207 ?_
    refine wd_put hC i9 tyX9_ok nmX9 hW 0 wR_c0 rfl 14 (Nat.le_of_ble_eq_true rfl) f134 rfl rfl rfl rfl (Nat.le_of_ble_eq_true rfl) wR_s0_14 dX9_doesTry_208 (fun H locs hW => ?_)
    obtain ⟨T44, e45, h⟩ := nm_of h
    replace hW := wq_T e45 hW
    refine lv_aload_n hx hb dX9_doesTry_211 rfl (lv_at hl 2 rfl) ?_
    obtain ⟨r46, hr47, h⟩ := bd_of h
    refine wd_callV0 (As := []) hC hW 0 wR_c0 rfl (c_X9_goesOn l D cy ad X n T44 r46 hr47) (cwV 0 hts (gu_V w_21_21 w_21_18 w_21_19 w_21_20 w_1_5) rfl rfl rfl hdX9_goesOn ⟨Nat.le_of_ble_eq_true rfl, Nat.le_of_ble_eq_true rfl⟩) rfl hl.1 rfl (Nat.le_of_ble_eq_true rfl) ⟨Nat.zero_le _, Nat.zero_le _⟩ dX9_doesTry_212 (fun H locs hW => ?_)
    obtain rfl := Option.some.inj h
    exact wd_vret hA hQ hC hr hk hW dX9_doesTry_215
  replace h := hq25
  refine lv_if_eq (tgt := 116) hx hb dX9_doesTry_87 (by decide) (fun c23 => ?_) (fun c23 => ?_)
  · replace h := ite_t h c23
    refine lv_aload_n hx hb dX9_doesTry_116 rfl (lv_at hl 2 rfl) ?_
    refine lv_iload_n hx hb dX9_doesTry_117 rfl (lv_at hl 3 rfl) ?_
    refine lv_iconst (v := 4) hx hb dX9_doesTry_118 (by decide) ?_
    refine lv_aload_n hx hb dX9_doesTry_119 rfl (lv_at hl 2 rfl) ?_
    refine lv_iload_n hx hb dX9_doesTry_120 rfl (lv_at hl 3 rfl) ?_
    refine lv_iconst (v := 4) hx hb dX9_doesTry_121 (by decide) ?_
    obtain ⟨r48, hr49, h⟩ := bd_of h
    refine wd_callV1 (As := [.int p0, .int 4]) hC hW 0 wR_c0 rfl (c_X9_of l D cy ad X r21 p0 4 r48 hr49) (cwV 2 hts (gu_V w_12_0 w_11_21 w_11_22 w_11_23 w_1_5) rfl rfl rfl hdX9_of ⟨Nat.le_of_ble_eq_true rfl, Nat.le_of_ble_eq_true rfl⟩) rfl hl.1 rfl (Nat.le_of_ble_eq_true rfl) ⟨Nat.zero_le _, Nat.zero_le _⟩ dX9_doesTry_122 (fun H locs hW => ?_)
    refine lv_iconst (v := 1) hx hb dX9_doesTry_125 (by decide) ?_
    refine lv_iadd hx hb dX9_doesTry_126 ?_
    obtain ⟨r50, hr51, h⟩ := bd_of h
    refine wd_callV0 (As := [.int p0, .int 4, .int (r48 + 1)]) hC hW 0 wR_c0 rfl (c_X9_sets l D cy ad X r21 p0 4 (r48 + 1) r50 hr51) (cwV 3 hts (gu_V w_12_8 w_12_5 w_12_6 w_12_7 w_1_5) rfl rfl rfl hdX9_sets ⟨Nat.le_of_ble_eq_true rfl, Nat.le_of_ble_eq_true rfl⟩) rfl hl.1 rfl (Nat.le_of_ble_eq_true rfl) ⟨Nat.zero_le _, Nat.zero_le _⟩ dX9_doesTry_127 (fun H locs hW => ?_)
    obtain rfl := Option.some.inj h
    exact hJ130 _ _ _ hW (lv_sub hl [0, 1, 2, 3, 4] rfl)
  · replace h := ite_f h c23
    refine lv_aload_n hx hb dX9_doesTry_90 rfl (lv_at hl 2 rfl) ?_
    refine lv_iload_n hx hb dX9_doesTry_91 rfl (lv_at hl 3 rfl) ?_
    refine lv_bipush (v := 7) hx hb dX9_doesTry_92 (by decide) ?_
    refine lv_iload_n hx hb dX9_doesTry_94 rfl (lv_at hl 1 rfl) ?_
    refine lv_iadd hx hb dX9_doesTry_95 ?_
    refine lv_iload hx hb dX9_doesTry_96 (lv_at hl 0 rfl) ?_
    refine lv_aload_n hx hb dX9_doesTry_98 rfl (lv_at hl 2 rfl) ?_
    refine lv_iload_n hx hb dX9_doesTry_99 rfl (lv_at hl 3 rfl) ?_
    refine lv_bipush (v := 7) hx hb dX9_doesTry_100 (by decide) ?_
    refine lv_iload_n hx hb dX9_doesTry_102 rfl (lv_at hl 1 rfl) ?_
    refine lv_iadd hx hb dX9_doesTry_103 ?_
    obtain ⟨r52, hr53, h⟩ := bd_of h
    refine wd_callV1 (As := [.int p0, .int (7 + (T.2.1 11 ((0 : Int32).toNatClampNeg)))]) hC hW 0 wR_c0 rfl (c_X9_of l D cy ad X r21 p0 (7 + (T.2.1 11 ((0 : Int32).toNatClampNeg))) r52 hr53) (cwV 2 hts (gu_V w_12_0 w_11_21 w_11_22 w_11_23 w_1_5) rfl rfl rfl hdX9_of ⟨Nat.le_of_ble_eq_true rfl, Nat.le_of_ble_eq_true rfl⟩) rfl hl.1 rfl (Nat.le_of_ble_eq_true rfl) ⟨Nat.zero_le _, Nat.zero_le _⟩ dX9_doesTry_104 (fun H locs hW => ?_)
    refine wd_max hC hl.1 ml100 msmax mi mcmax (Nat.le_of_ble_eq_true rfl) (Nat.le_of_ble_eq_true rfl) (Nat.zero_le _) (Nat.zero_le _) dX9_doesTry_107 ?_
    obtain ⟨r54, hr55, h⟩ := bd_of h
    refine wd_callV0 (As := [.int p0, .int (7 + (T.2.1 11 ((0 : Int32).toNatClampNeg))), .int (mx r2 r52)]) hC hW 0 wR_c0 rfl (c_X9_sets l D cy ad X r21 p0 (7 + (T.2.1 11 ((0 : Int32).toNatClampNeg))) (mx r2 r52) r54 hr55) (cwV 3 hts (gu_V w_12_8 w_12_5 w_12_6 w_12_7 w_1_5) rfl rfl rfl hdX9_sets ⟨Nat.le_of_ble_eq_true rfl, Nat.le_of_ble_eq_true rfl⟩) rfl hl.1 rfl (Nat.le_of_ble_eq_true rfl) ⟨Nat.zero_le _, Nat.zero_le _⟩ dX9_doesTry_110 (fun H locs hW => ?_)
    refine lv_goto (tgt := 130) hx hb dX9_doesTry_113 (by decide) ?_
    obtain rfl := Option.some.inj h
    exact hJ130 _ _ _ hW (lv_sub hl [0, 1, 2, 3, 4] rfl)
def m_X9_leastOf (T : St) (p0 : Int32) : Option (Int32) :=
  (m_X9_of T p0 0).bind (fun r1 => if r1 = 0 then (some 0) else ((m_X9_isOut T p0).bind (fun r4 => if r4 = 0 then ((m_X9_isOver T).bind (fun r7 => if r7 = 0 then ((m_X9_of T p0 2).bind (fun r10 => ((if r10 = 0 then (some 1) else ((m_X9_of T p0 2).bind (fun r19 => (m_X9_of T p0 3).bind (fun r21 => some (r19 + r21)))) : Option (Int32))).bind (fun q13 => (m_X9_of T p0 1).bind (fun r15 => if r15 = 0 then (ck 2 63 (some (mx q13 (T.2.1 11 ((2 : Int32).toNatClampNeg))))) else (some q13))))) else (some 0))) else (some 0))))
set_option maxHeartbeats 4000000 in
set_option maxRecDepth 100000 in
theorem c_X9_leastOf (l : Launch) (D : va_G) (cy : Nat → ClassId) (ad : Nat → Nat) (X : va_W) (T : St) (p0 : Int32) (r : (Int32)) (h : m_X9_leastOf T p0 = some r) : CT l yX9_leastOf (wu yX9_leastOf cX9_leastOf 3 (some .int)) 2 D cy [.ref (ad 0), .int p0] (wR ad cy T ++ X) (some (.int r)) (wR ad cy T ++ X) := by
  refine CT.mk (cc := cX9_leastOf) (maxL := 3) (ret := (some .int)) (own := RX9) (by decide) rfl rfl (Nat.le_of_ble_eq_true rfl) ?_
  intro p e s m args below meth c ls A Q hA hQ hC hr hk hW hl
  have hx := hC.1
  have hb := hC.2.1
  have hown := hC.2.2.2.1
  have hts := hC.2.2.2.2
  have hl : lv_has ls 3 [(0, .ref (ad 0)), (1, .int p0)] := hl
  have f32 := hts _ (wu_in w_5_10)
  have i9 := (fun w h => wu_in (inc_9 w h) : ∀ w ∈ u_ws RX9 TX9 40, w ∈ (wu yX9_leastOf cX9_leastOf 3 (some .int)))
  have ml100 := hts _ (wu_in w_16_0)
  have msmax := hts _ (wu_in w_15_13)
  have mi := hts _ (wu_in w_15_14)
  have mcmax := hts _ (wu_in w_15_15)
  unfold m_X9_leastOf at h
  refine lv_aload_n hx hb dX9_leastOf_0 rfl (lv_at hl 0 rfl) ?_
  refine lv_iload_n hx hb dX9_leastOf_1 rfl (lv_at hl 1 rfl) ?_
  refine lv_iconst (v := 0) hx hb dX9_leastOf_2 (by decide) ?_
  obtain ⟨r1, hr2, h⟩ := bd_of h
  refine wd_callV1 (As := [.int p0, .int 0]) hC hW 0 wR_c0 rfl (c_X9_of l D cy ad X T p0 0 r1 hr2) (cwV 2 hts (gu_V w_12_0 w_11_21 w_11_22 w_11_23 w_1_5) rfl rfl rfl hdX9_of ⟨Nat.le_of_ble_eq_true rfl, Nat.le_of_ble_eq_true rfl⟩) rfl hl.1 rfl (Nat.le_of_ble_eq_true rfl) ⟨Nat.zero_le _, Nat.zero_le _⟩ dX9_leastOf_3 (fun H locs hW => ?_)
  refine lv_if_eq (tgt := 24) hx hb dX9_leastOf_6 (by decide) (fun c3 => ?_) (fun c3 => ?_)
  · replace h := ite_t h c3
    refine lv_iconst (v := 0) hx hb dX9_leastOf_24 (by decide) ?_
    obtain rfl := Option.some.inj h
    exact wd_iret hA hQ hC hr hk hW dX9_leastOf_25
  · replace h := ite_f h c3
    refine lv_aload_n hx hb dX9_leastOf_9 rfl (lv_at hl 0 rfl) ?_
    refine lv_iload_n hx hb dX9_leastOf_10 rfl (lv_at hl 1 rfl) ?_
    obtain ⟨r4, hr5, h⟩ := bd_of h
    refine wd_callV1 (As := [.int p0]) hC hW 0 wR_c0 rfl (c_X9_isOut l D cy ad X T p0 r4 hr5) (cwV 1 hts (gu_V w_11_20 w_11_17 w_11_18 w_11_19 w_1_5) rfl rfl rfl hdX9_isOut ⟨Nat.le_of_ble_eq_true rfl, Nat.le_of_ble_eq_true rfl⟩) rfl hl.1 rfl (Nat.le_of_ble_eq_true rfl) ⟨Nat.zero_le _, Nat.zero_le _⟩ dX9_leastOf_11 (fun H locs hW => ?_)
    refine lv_if_ne (tgt := 24) hx hb dX9_leastOf_14 (by decide) (fun c6 => ?_) (fun c6 => ?_)
    · replace h := ite_f h c6
      refine lv_iconst (v := 0) hx hb dX9_leastOf_24 (by decide) ?_
      obtain rfl := Option.some.inj h
      exact wd_iret hA hQ hC hr hk hW dX9_leastOf_25
    · replace h := ite_t h c6
      refine lv_aload_n hx hb dX9_leastOf_17 rfl (lv_at hl 0 rfl) ?_
      obtain ⟨r7, hr8, h⟩ := bd_of h
      refine wd_callV1 (As := []) hC hW 0 wR_c0 rfl (c_X9_isOver l D cy ad X T r7 hr8) (cwV 0 hts (gu_V w_11_16 w_11_13 w_11_14 w_11_15 w_1_5) rfl rfl rfl hdX9_isOver ⟨Nat.le_of_ble_eq_true rfl, Nat.le_of_ble_eq_true rfl⟩) rfl hl.1 rfl (Nat.le_of_ble_eq_true rfl) ⟨Nat.zero_le _, Nat.zero_le _⟩ dX9_leastOf_18 (fun H locs hW => ?_)
      refine lv_if_eq (tgt := 26) hx hb dX9_leastOf_21 (by decide) (fun c9 => ?_) (fun c9 => ?_)
      · replace h := ite_t h c9
        refine lv_aload_n hx hb dX9_leastOf_26 rfl (lv_at hl 0 rfl) ?_
        refine lv_iload_n hx hb dX9_leastOf_27 rfl (lv_at hl 1 rfl) ?_
        refine lv_iconst (v := 2) hx hb dX9_leastOf_28 (by decide) ?_
        obtain ⟨r10, hr11, h⟩ := bd_of h
        refine wd_callV1 (As := [.int p0, .int 2]) hC hW 0 wR_c0 rfl (c_X9_of l D cy ad X T p0 2 r10 hr11) (cwV 2 hts (gu_V w_12_0 w_11_21 w_11_22 w_11_23 w_1_5) rfl rfl rfl hdX9_of ⟨Nat.le_of_ble_eq_true rfl, Nat.le_of_ble_eq_true rfl⟩) rfl hl.1 rfl (Nat.le_of_ble_eq_true rfl) ⟨Nat.zero_le _, Nat.zero_le _⟩ dX9_leastOf_29 (fun H locs hW => ?_)
        obtain ⟨q13, hq14, h⟩ := bd_of h
        have hJ52 : ∀ (H : Heap) (locs : List Loc) (ls : Array Slot), Wd D cy A s (wR ad cy T ++ X) H locs → lv_has ls 3 [(0, .ref (ad 0)), (1, .int p0)] → W p l e (RM 2) s m args below meth c H locs 0 0 Q (F0 m 52 ls [.int q13]) := by
          intro H locs ls hW hl
          refine lv_istore_n (lv' := [(2, .int q13), (0, .ref (ad 0)), (1, .int p0)]) hx hb dX9_leastOf_52 rfl hl (by decide) rfl (fun ls hl => ?_)
          refine lv_aload_n hx hb dX9_leastOf_53 rfl (lv_at hl 1 rfl) ?_
          refine lv_iload_n hx hb dX9_leastOf_54 rfl (lv_at hl 2 rfl) ?_
          refine lv_iconst (v := 1) hx hb dX9_leastOf_55 (by decide) ?_
          obtain ⟨r15, hr16, h⟩ := bd_of h
          refine wd_callV1 (As := [.int p0, .int 1]) hC hW 0 wR_c0 rfl (c_X9_of l D cy ad X T p0 1 r15 hr16) (cwV 2 hts (gu_V w_12_0 w_11_21 w_11_22 w_11_23 w_1_5) rfl rfl rfl hdX9_of ⟨Nat.le_of_ble_eq_true rfl, Nat.le_of_ble_eq_true rfl⟩) rfl hl.1 rfl (Nat.le_of_ble_eq_true rfl) ⟨Nat.zero_le _, Nat.zero_le _⟩ dX9_leastOf_56 (fun H locs hW => ?_)
          refine lv_if_ne (tgt := 75) hx hb dX9_leastOf_59 (by decide) (fun c17 => ?_) (fun c17 => ?_)
          · replace h := ite_f h c17
            refine lv_iload_n hx hb dX9_leastOf_75 rfl (lv_at hl 0 rfl) ?_
            obtain rfl := Option.some.inj h
            exact wd_iret hA hQ hC hr hk hW dX9_leastOf_76
          · replace h := ite_t h c17
            refine lv_iload_n hx hb dX9_leastOf_62 rfl (lv_at hl 0 rfl) ?_
            refine lv_aload_n hx hb dX9_leastOf_63 rfl (lv_at hl 1 rfl) ?_
            refine wd_get hC i9 hW 0 wR_c0 rfl 11 (Nat.le_of_ble_eq_true rfl) f32 rfl rfl dX9_leastOf_64 ?_
            refine lv_iconst (v := 2) hx hb dX9_leastOf_67 (by decide) ?_
            obtain ⟨hi18, h⟩ := ck_of h
            refine wd_iald hC hW 8 wR_c8 hi18 dX9_leastOf_68 ?_
            refine wd_max hC hl.1 ml100 msmax mi mcmax (Nat.le_of_ble_eq_true rfl) (Nat.le_of_ble_eq_true rfl) (Nat.zero_le _) (Nat.zero_le _) dX9_leastOf_69 ?_
            refine lv_goto (tgt := 76) hx hb dX9_leastOf_72 (by decide) ?_
            obtain rfl := Option.some.inj h
            exact wd_iret hA hQ hC hr hk hW dX9_leastOf_76
        replace h := hq14
        refine lv_if_ne (tgt := 39) hx hb dX9_leastOf_32 (by decide) (fun c12 => ?_) (fun c12 => ?_)
        · replace h := ite_f h c12
          refine lv_aload_n hx hb dX9_leastOf_39 rfl (lv_at hl 0 rfl) ?_
          refine lv_iload_n hx hb dX9_leastOf_40 rfl (lv_at hl 1 rfl) ?_
          refine lv_iconst (v := 2) hx hb dX9_leastOf_41 (by decide) ?_
          obtain ⟨r19, hr20, h⟩ := bd_of h
          refine wd_callV1 (As := [.int p0, .int 2]) hC hW 0 wR_c0 rfl (c_X9_of l D cy ad X T p0 2 r19 hr20) (cwV 2 hts (gu_V w_12_0 w_11_21 w_11_22 w_11_23 w_1_5) rfl rfl rfl hdX9_of ⟨Nat.le_of_ble_eq_true rfl, Nat.le_of_ble_eq_true rfl⟩) rfl hl.1 rfl (Nat.le_of_ble_eq_true rfl) ⟨Nat.zero_le _, Nat.zero_le _⟩ dX9_leastOf_42 (fun H locs hW => ?_)
          refine lv_aload_n hx hb dX9_leastOf_45 rfl (lv_at hl 0 rfl) ?_
          refine lv_iload_n hx hb dX9_leastOf_46 rfl (lv_at hl 1 rfl) ?_
          refine lv_iconst (v := 3) hx hb dX9_leastOf_47 (by decide) ?_
          obtain ⟨r21, hr22, h⟩ := bd_of h
          refine wd_callV1 (As := [.int p0, .int 3]) hC hW 0 wR_c0 rfl (c_X9_of l D cy ad X T p0 3 r21 hr22) (cwV 2 hts (gu_V w_12_0 w_11_21 w_11_22 w_11_23 w_1_5) rfl rfl rfl hdX9_of ⟨Nat.le_of_ble_eq_true rfl, Nat.le_of_ble_eq_true rfl⟩) rfl hl.1 rfl (Nat.le_of_ble_eq_true rfl) ⟨Nat.zero_le _, Nat.zero_le _⟩ dX9_leastOf_48 (fun H locs hW => ?_)
          refine lv_iadd hx hb dX9_leastOf_51 ?_
          obtain rfl := Option.some.inj h
          exact hJ52 _ _ _ hW (lv_sub hl [0, 1] rfl)
        · replace h := ite_t h c12
          refine lv_iconst (v := 1) hx hb dX9_leastOf_35 (by decide) ?_
          refine lv_goto (tgt := 52) hx hb dX9_leastOf_36 (by decide) ?_
          obtain rfl := Option.some.inj h
          exact hJ52 _ _ _ hW (lv_sub hl [0, 1] rfl)
      · replace h := ite_f h c9
        refine lv_iconst (v := 0) hx hb dX9_leastOf_24 (by decide) ?_
        obtain rfl := Option.some.inj h
        exact wd_iret hA hQ hC hr hk hW dX9_leastOf_25
def m_X9_sumOf (T : St) (p0 : Int32) : Option (Int32) :=
  (m_X9_isOut T p0).bind (fun r1 => if r1 = 0 then ((m_X9_of T p0 7).bind (fun r4 => (m_X9_of T p0 8).bind (fun r6 => (m_X9_of T p0 9).bind (fun r8 => some ((r4 + r6) + r8))))) else (some 0))
set_option maxHeartbeats 4000000 in
set_option maxRecDepth 100000 in
theorem c_X9_sumOf (l : Launch) (D : va_G) (cy : Nat → ClassId) (ad : Nat → Nat) (X : va_W) (T : St) (p0 : Int32) (r : (Int32)) (h : m_X9_sumOf T p0 = some r) : CT l yX9_sumOf (wu yX9_sumOf cX9_sumOf 2 (some .int)) 2 D cy [.ref (ad 0), .int p0] (wR ad cy T ++ X) (some (.int r)) (wR ad cy T ++ X) := by
  refine CT.mk (cc := cX9_sumOf) (maxL := 2) (ret := (some .int)) (own := RX9) (by decide) rfl rfl (Nat.le_of_ble_eq_true rfl) ?_
  intro p e s m args below meth c ls A Q hA hQ hC hr hk hW hl
  have hx := hC.1
  have hb := hC.2.1
  have hown := hC.2.2.2.1
  have hts := hC.2.2.2.2
  have hl : lv_has ls 2 [(0, .ref (ad 0)), (1, .int p0)] := hl
  unfold m_X9_sumOf at h
  refine lv_aload_n hx hb dX9_sumOf_0 rfl (lv_at hl 0 rfl) ?_
  refine lv_iload_n hx hb dX9_sumOf_1 rfl (lv_at hl 1 rfl) ?_
  obtain ⟨r1, hr2, h⟩ := bd_of h
  refine wd_callV1 (As := [.int p0]) hC hW 0 wR_c0 rfl (c_X9_isOut l D cy ad X T p0 r1 hr2) (cwV 1 hts (gu_V w_11_20 w_11_17 w_11_18 w_11_19 w_1_5) rfl rfl rfl hdX9_isOut ⟨Nat.le_of_ble_eq_true rfl, Nat.le_of_ble_eq_true rfl⟩) rfl hl.1 rfl (Nat.le_of_ble_eq_true rfl) ⟨Nat.zero_le _, Nat.zero_le _⟩ dX9_sumOf_2 (fun H locs hW => ?_)
  refine lv_if_eq (tgt := 12) hx hb dX9_sumOf_5 (by decide) (fun c3 => ?_) (fun c3 => ?_)
  · replace h := ite_t h c3
    refine lv_aload_n hx hb dX9_sumOf_12 rfl (lv_at hl 0 rfl) ?_
    refine lv_iload_n hx hb dX9_sumOf_13 rfl (lv_at hl 1 rfl) ?_
    refine lv_bipush (v := 7) hx hb dX9_sumOf_14 (by decide) ?_
    obtain ⟨r4, hr5, h⟩ := bd_of h
    refine wd_callV1 (As := [.int p0, .int 7]) hC hW 0 wR_c0 rfl (c_X9_of l D cy ad X T p0 7 r4 hr5) (cwV 2 hts (gu_V w_12_0 w_11_21 w_11_22 w_11_23 w_1_5) rfl rfl rfl hdX9_of ⟨Nat.le_of_ble_eq_true rfl, Nat.le_of_ble_eq_true rfl⟩) rfl hl.1 rfl (Nat.le_of_ble_eq_true rfl) ⟨Nat.zero_le _, Nat.zero_le _⟩ dX9_sumOf_16 (fun H locs hW => ?_)
    refine lv_aload_n hx hb dX9_sumOf_19 rfl (lv_at hl 0 rfl) ?_
    refine lv_iload_n hx hb dX9_sumOf_20 rfl (lv_at hl 1 rfl) ?_
    refine lv_bipush (v := 8) hx hb dX9_sumOf_21 (by decide) ?_
    obtain ⟨r6, hr7, h⟩ := bd_of h
    refine wd_callV1 (As := [.int p0, .int 8]) hC hW 0 wR_c0 rfl (c_X9_of l D cy ad X T p0 8 r6 hr7) (cwV 2 hts (gu_V w_12_0 w_11_21 w_11_22 w_11_23 w_1_5) rfl rfl rfl hdX9_of ⟨Nat.le_of_ble_eq_true rfl, Nat.le_of_ble_eq_true rfl⟩) rfl hl.1 rfl (Nat.le_of_ble_eq_true rfl) ⟨Nat.zero_le _, Nat.zero_le _⟩ dX9_sumOf_23 (fun H locs hW => ?_)
    refine lv_iadd hx hb dX9_sumOf_26 ?_
    refine lv_aload_n hx hb dX9_sumOf_27 rfl (lv_at hl 0 rfl) ?_
    refine lv_iload_n hx hb dX9_sumOf_28 rfl (lv_at hl 1 rfl) ?_
    refine lv_bipush (v := 9) hx hb dX9_sumOf_29 (by decide) ?_
    obtain ⟨r8, hr9, h⟩ := bd_of h
    refine wd_callV1 (As := [.int p0, .int 9]) hC hW 0 wR_c0 rfl (c_X9_of l D cy ad X T p0 9 r8 hr9) (cwV 2 hts (gu_V w_12_0 w_11_21 w_11_22 w_11_23 w_1_5) rfl rfl rfl hdX9_of ⟨Nat.le_of_ble_eq_true rfl, Nat.le_of_ble_eq_true rfl⟩) rfl hl.1 rfl (Nat.le_of_ble_eq_true rfl) ⟨Nat.zero_le _, Nat.zero_le _⟩ dX9_sumOf_31 (fun H locs hW => ?_)
    refine lv_iadd hx hb dX9_sumOf_34 ?_
    obtain rfl := Option.some.inj h
    exact wd_iret hA hQ hC hr hk hW dX9_sumOf_35
  · replace h := ite_f h c3
    refine lv_iconst (v := 0) hx hb dX9_sumOf_8 (by decide) ?_
    refine lv_goto (tgt := 35) hx hb dX9_sumOf_9 (by decide) ?_
    obtain rfl := Option.some.inj h
    exact wd_iret hA hQ hC hr hk hW dX9_sumOf_35
def m_X9_isLighter (T : St) (p0 : Int32) (p1 : Int32) : Option (Int32) :=
  ck p0 6 (ck p1 6 (if (T.2.1 4 p0.toNatClampNeg) < (T.2.1 4 p1.toNatClampNeg) then (some 1) else (ck p0 6 (ck p1 6 (if (T.2.1 4 p0.toNatClampNeg) = (T.2.1 4 p1.toNatClampNeg) then (ck p0 6 (ck p1 6 (if (T.2.1 5 p1.toNatClampNeg) ≤ (T.2.1 5 p0.toNatClampNeg) then (some 0) else (some 1)))) else (some 0))))))
set_option maxHeartbeats 4000000 in
set_option maxRecDepth 100000 in
theorem c_X9_isLighter (l : Launch) (D : va_G) (cy : Nat → ClassId) (ad : Nat → Nat) (X : va_W) (T : St) (p0 : Int32) (p1 : Int32) (r : (Int32)) (h : m_X9_isLighter T p0 p1 = some r) : CT l yX9_isLighter (wu yX9_isLighter cX9_isLighter 3 (some .boolean)) 0 D cy [.ref (ad 0), .int p0, .int p1] (wR ad cy T ++ X) (some (.int r)) (wR ad cy T ++ X) := by
  refine CT.mk (cc := cX9_isLighter) (maxL := 3) (ret := (some .boolean)) (own := RX9) (by decide) rfl rfl (Nat.le_of_ble_eq_true rfl) ?_
  intro p e s m args below meth c ls A Q hA hQ hC hr hk hW hl
  have hx := hC.1
  have hb := hC.2.1
  have hown := hC.2.2.2.1
  have hts := hC.2.2.2.2
  have hl : lv_has ls 3 [(0, .ref (ad 0)), (1, .int p0), (2, .int p1)] := hl
  have f13 := hts _ (wu_in w_5_4)
  have i9 := (fun w h => wu_in (inc_9 w h) : ∀ w ∈ u_ws RX9 TX9 40, w ∈ (wu yX9_isLighter cX9_isLighter 3 (some .boolean)))
  have f17 := hts _ (wu_in w_5_5)
  unfold m_X9_isLighter at h
  refine lv_aload_n hx hb dX9_isLighter_0 rfl (lv_at hl 0 rfl) ?_
  refine wd_get hC i9 hW 0 wR_c0 rfl 4 (Nat.le_of_ble_eq_true rfl) f13 rfl rfl dX9_isLighter_1 ?_
  refine lv_iload_n hx hb dX9_isLighter_4 rfl (lv_at hl 1 rfl) ?_
  obtain ⟨hi1, h⟩ := ck_of h
  refine wd_iald hC hW 2 wR_c2 hi1 dX9_isLighter_5 ?_
  refine lv_aload_n hx hb dX9_isLighter_6 rfl (lv_at hl 0 rfl) ?_
  refine wd_get hC i9 hW 0 wR_c0 rfl 4 (Nat.le_of_ble_eq_true rfl) f13 rfl rfl dX9_isLighter_7 ?_
  refine lv_iload_n hx hb dX9_isLighter_10 rfl (lv_at hl 2 rfl) ?_
  obtain ⟨hi2, h⟩ := ck_of h
  refine wd_iald hC hW 2 wR_c2 hi2 dX9_isLighter_11 ?_
  refine lv_icmp_lt (tgt := 45) hx hb dX9_isLighter_12 (by decide) (fun c3 => ?_) (fun c3 => ?_)
  · replace h := ite_t h c3
    refine lv_iconst (v := 1) hx hb dX9_isLighter_45 (by decide) ?_
    refine lv_goto (tgt := 50) hx hb dX9_isLighter_46 (by decide) ?_
    obtain rfl := Option.some.inj h
    exact wd_zret hA hQ hC hr hk hW rfl dX9_isLighter_50
  · replace h := ite_f h c3
    refine lv_aload_n hx hb dX9_isLighter_15 rfl (lv_at hl 0 rfl) ?_
    refine wd_get hC i9 hW 0 wR_c0 rfl 4 (Nat.le_of_ble_eq_true rfl) f13 rfl rfl dX9_isLighter_16 ?_
    refine lv_iload_n hx hb dX9_isLighter_19 rfl (lv_at hl 1 rfl) ?_
    obtain ⟨hi4, h⟩ := ck_of h
    refine wd_iald hC hW 2 wR_c2 hi4 dX9_isLighter_20 ?_
    refine lv_aload_n hx hb dX9_isLighter_21 rfl (lv_at hl 0 rfl) ?_
    refine wd_get hC i9 hW 0 wR_c0 rfl 4 (Nat.le_of_ble_eq_true rfl) f13 rfl rfl dX9_isLighter_22 ?_
    refine lv_iload_n hx hb dX9_isLighter_25 rfl (lv_at hl 2 rfl) ?_
    obtain ⟨hi5, h⟩ := ck_of h
    refine wd_iald hC hW 2 wR_c2 hi5 dX9_isLighter_26 ?_
    refine lv_icmp_ne (tgt := 49) hx hb dX9_isLighter_27 (by decide) (fun c6 => ?_) (fun c6 => ?_)
    · replace h := ite_f h c6
      refine lv_iconst (v := 0) hx hb dX9_isLighter_49 (by decide) ?_
      obtain rfl := Option.some.inj h
      exact wd_zret hA hQ hC hr hk hW rfl dX9_isLighter_50
    · replace h := ite_t h c6
      refine lv_aload_n hx hb dX9_isLighter_30 rfl (lv_at hl 0 rfl) ?_
      refine wd_get hC i9 hW 0 wR_c0 rfl 5 (Nat.le_of_ble_eq_true rfl) f17 rfl rfl dX9_isLighter_31 ?_
      refine lv_iload_n hx hb dX9_isLighter_34 rfl (lv_at hl 1 rfl) ?_
      obtain ⟨hi7, h⟩ := ck_of h
      refine wd_iald hC hW 3 wR_c3 hi7 dX9_isLighter_35 ?_
      refine lv_aload_n hx hb dX9_isLighter_36 rfl (lv_at hl 0 rfl) ?_
      refine wd_get hC i9 hW 0 wR_c0 rfl 5 (Nat.le_of_ble_eq_true rfl) f17 rfl rfl dX9_isLighter_37 ?_
      refine lv_iload_n hx hb dX9_isLighter_40 rfl (lv_at hl 2 rfl) ?_
      obtain ⟨hi8, h⟩ := ck_of h
      refine wd_iald hC hW 3 wR_c3 hi8 dX9_isLighter_41 ?_
      refine lv_icmp_ge (tgt := 49) hx hb dX9_isLighter_42 (by decide) (fun c9 => ?_) (fun c9 => ?_)
      · replace h := ite_t h c9
        refine lv_iconst (v := 0) hx hb dX9_isLighter_49 (by decide) ?_
        obtain rfl := Option.some.inj h
        exact wd_zret hA hQ hC hr hk hW rfl dX9_isLighter_50
      · replace h := ite_f h c9
        refine lv_iconst (v := 1) hx hb dX9_isLighter_45 (by decide) ?_
        refine lv_goto (tgt := 50) hx hb dX9_isLighter_46 (by decide) ?_
        obtain rfl := Option.some.inj h
        exact wd_zret hA hQ hC hr hk hW rfl dX9_isLighter_50
def m_X9_isAhead (T : St) (p0 : Int32) (p1 : Int32) : Option (Int32) :=
  (m_X9_isOut T p0).bind (fun r1 => (m_X9_isOut T p1).bind (fun r3 => if r1 = r3 then ((m_X9_sumOf T p0).bind (fun r6 => (m_X9_sumOf T p1).bind (fun r8 => if r8 < r6 then (some 1) else ((m_X9_sumOf T p0).bind (fun r11 => (m_X9_sumOf T p1).bind (fun r13 => if r11 = r13 then ((m_X9_isLighter T p0 p1).bind (fun r16 => if r16 = 0 then (some 0) else (some 1))) else (some 0))))))) else ((m_X9_isOut T p1).bind (fun r19 => ckb r19 (some r19)))))
set_option maxHeartbeats 4000000 in
set_option maxRecDepth 100000 in
theorem c_X9_isAhead (l : Launch) (D : va_G) (cy : Nat → ClassId) (ad : Nat → Nat) (X : va_W) (T : St) (p0 : Int32) (p1 : Int32) (r : (Int32)) (h : m_X9_isAhead T p0 p1 = some r) : CT l yX9_isAhead (wu yX9_isAhead cX9_isAhead 3 (some .boolean)) 3 D cy [.ref (ad 0), .int p0, .int p1] (wR ad cy T ++ X) (some (.int r)) (wR ad cy T ++ X) := by
  refine CT.mk (cc := cX9_isAhead) (maxL := 3) (ret := (some .boolean)) (own := RX9) (by decide) rfl rfl (Nat.le_of_ble_eq_true rfl) ?_
  intro p e s m args below meth c ls A Q hA hQ hC hr hk hW hl
  have hx := hC.1
  have hb := hC.2.1
  have hown := hC.2.2.2.1
  have hts := hC.2.2.2.2
  have hl : lv_has ls 3 [(0, .ref (ad 0)), (1, .int p0), (2, .int p1)] := hl
  unfold m_X9_isAhead at h
  refine lv_aload_n hx hb dX9_isAhead_0 rfl (lv_at hl 0 rfl) ?_
  refine lv_iload_n hx hb dX9_isAhead_1 rfl (lv_at hl 1 rfl) ?_
  obtain ⟨r1, hr2, h⟩ := bd_of h
  refine wd_callV1 (As := [.int p0]) hC hW 0 wR_c0 rfl (c_X9_isOut l D cy ad X T p0 r1 hr2) (cwV 1 hts (gu_V w_11_20 w_11_17 w_11_18 w_11_19 w_1_5) rfl rfl rfl hdX9_isOut ⟨Nat.le_of_ble_eq_true rfl, Nat.le_of_ble_eq_true rfl⟩) rfl hl.1 rfl (Nat.le_of_ble_eq_true rfl) ⟨Nat.zero_le _, Nat.zero_le _⟩ dX9_isAhead_2 (fun H locs hW => ?_)
  refine lv_aload_n hx hb dX9_isAhead_5 rfl (lv_at hl 0 rfl) ?_
  refine lv_iload_n hx hb dX9_isAhead_6 rfl (lv_at hl 2 rfl) ?_
  obtain ⟨r3, hr4, h⟩ := bd_of h
  refine wd_callV1 (As := [.int p1]) hC hW 0 wR_c0 rfl (c_X9_isOut l D cy ad X T p1 r3 hr4) (cwV 1 hts (gu_V w_11_20 w_11_17 w_11_18 w_11_19 w_1_5) rfl rfl rfl hdX9_isOut ⟨Nat.le_of_ble_eq_true rfl, Nat.le_of_ble_eq_true rfl⟩) rfl hl.1 rfl (Nat.le_of_ble_eq_true rfl) ⟨Nat.zero_le _, Nat.zero_le _⟩ dX9_isAhead_7 (fun H locs hW => ?_)
  refine lv_icmp_eq (tgt := 19) hx hb dX9_isAhead_10 (by decide) (fun c5 => ?_) (fun c5 => ?_)
  · replace h := ite_t h c5
    refine lv_aload_n hx hb dX9_isAhead_19 rfl (lv_at hl 0 rfl) ?_
    refine lv_iload_n hx hb dX9_isAhead_20 rfl (lv_at hl 1 rfl) ?_
    obtain ⟨r6, hr7, h⟩ := bd_of h
    refine wd_callV1 (As := [.int p0]) hC hW 0 wR_c0 rfl (c_X9_sumOf l D cy ad X T p0 r6 hr7) (cwV 1 hts (gu_V w_17_22 w_17_19 w_17_20 w_17_21 w_1_5) rfl rfl rfl hdX9_sumOf ⟨Nat.le_of_ble_eq_true rfl, Nat.le_of_ble_eq_true rfl⟩) rfl hl.1 rfl (Nat.le_of_ble_eq_true rfl) ⟨Nat.zero_le _, Nat.zero_le _⟩ dX9_isAhead_21 (fun H locs hW => ?_)
    refine lv_aload_n hx hb dX9_isAhead_24 rfl (lv_at hl 0 rfl) ?_
    refine lv_iload_n hx hb dX9_isAhead_25 rfl (lv_at hl 2 rfl) ?_
    obtain ⟨r8, hr9, h⟩ := bd_of h
    refine wd_callV1 (As := [.int p1]) hC hW 0 wR_c0 rfl (c_X9_sumOf l D cy ad X T p1 r8 hr9) (cwV 1 hts (gu_V w_17_22 w_17_19 w_17_20 w_17_21 w_1_5) rfl rfl rfl hdX9_sumOf ⟨Nat.le_of_ble_eq_true rfl, Nat.le_of_ble_eq_true rfl⟩) rfl hl.1 rfl (Nat.le_of_ble_eq_true rfl) ⟨Nat.zero_le _, Nat.zero_le _⟩ dX9_isAhead_26 (fun H locs hW => ?_)
    refine lv_icmp_gt (tgt := 54) hx hb dX9_isAhead_29 (by decide) (fun c10 => ?_) (fun c10 => ?_)
    · replace h := ite_t h c10
      refine lv_iconst (v := 1) hx hb dX9_isAhead_54 (by decide) ?_
      refine lv_goto (tgt := 59) hx hb dX9_isAhead_55 (by decide) ?_
      obtain rfl := Option.some.inj h
      exact wd_zret hA hQ hC hr hk hW rfl dX9_isAhead_59
    · replace h := ite_f h c10
      refine lv_aload_n hx hb dX9_isAhead_32 rfl (lv_at hl 0 rfl) ?_
      refine lv_iload_n hx hb dX9_isAhead_33 rfl (lv_at hl 1 rfl) ?_
      obtain ⟨r11, hr12, h⟩ := bd_of h
      refine wd_callV1 (As := [.int p0]) hC hW 0 wR_c0 rfl (c_X9_sumOf l D cy ad X T p0 r11 hr12) (cwV 1 hts (gu_V w_17_22 w_17_19 w_17_20 w_17_21 w_1_5) rfl rfl rfl hdX9_sumOf ⟨Nat.le_of_ble_eq_true rfl, Nat.le_of_ble_eq_true rfl⟩) rfl hl.1 rfl (Nat.le_of_ble_eq_true rfl) ⟨Nat.zero_le _, Nat.zero_le _⟩ dX9_isAhead_34 (fun H locs hW => ?_)
      refine lv_aload_n hx hb dX9_isAhead_37 rfl (lv_at hl 0 rfl) ?_
      refine lv_iload_n hx hb dX9_isAhead_38 rfl (lv_at hl 2 rfl) ?_
      obtain ⟨r13, hr14, h⟩ := bd_of h
      refine wd_callV1 (As := [.int p1]) hC hW 0 wR_c0 rfl (c_X9_sumOf l D cy ad X T p1 r13 hr14) (cwV 1 hts (gu_V w_17_22 w_17_19 w_17_20 w_17_21 w_1_5) rfl rfl rfl hdX9_sumOf ⟨Nat.le_of_ble_eq_true rfl, Nat.le_of_ble_eq_true rfl⟩) rfl hl.1 rfl (Nat.le_of_ble_eq_true rfl) ⟨Nat.zero_le _, Nat.zero_le _⟩ dX9_isAhead_39 (fun H locs hW => ?_)
      refine lv_icmp_ne (tgt := 58) hx hb dX9_isAhead_42 (by decide) (fun c15 => ?_) (fun c15 => ?_)
      · replace h := ite_f h c15
        refine lv_iconst (v := 0) hx hb dX9_isAhead_58 (by decide) ?_
        obtain rfl := Option.some.inj h
        exact wd_zret hA hQ hC hr hk hW rfl dX9_isAhead_59
      · replace h := ite_t h c15
        refine lv_aload_n hx hb dX9_isAhead_45 rfl (lv_at hl 0 rfl) ?_
        refine lv_iload_n hx hb dX9_isAhead_46 rfl (lv_at hl 1 rfl) ?_
        refine lv_iload_n hx hb dX9_isAhead_47 rfl (lv_at hl 2 rfl) ?_
        obtain ⟨r16, hr17, h⟩ := bd_of h
        refine wd_callV1 (As := [.int p0, .int p1]) hC hW 0 wR_c0 rfl (c_X9_isLighter l D cy ad X T p0 p1 r16 hr17) (cwV 2 hts (gu_V w_24_7 w_24_4 w_24_5 w_24_6 w_1_5) rfl rfl rfl hdX9_isLighter ⟨Nat.le_of_ble_eq_true rfl, Nat.le_of_ble_eq_true rfl⟩) rfl hl.1 rfl (Nat.le_of_ble_eq_true rfl) ⟨Nat.zero_le _, Nat.zero_le _⟩ dX9_isAhead_48 (fun H locs hW => ?_)
        refine lv_if_eq (tgt := 58) hx hb dX9_isAhead_51 (by decide) (fun c18 => ?_) (fun c18 => ?_)
        · replace h := ite_t h c18
          refine lv_iconst (v := 0) hx hb dX9_isAhead_58 (by decide) ?_
          obtain rfl := Option.some.inj h
          exact wd_zret hA hQ hC hr hk hW rfl dX9_isAhead_59
        · replace h := ite_f h c18
          refine lv_iconst (v := 1) hx hb dX9_isAhead_54 (by decide) ?_
          refine lv_goto (tgt := 59) hx hb dX9_isAhead_55 (by decide) ?_
          obtain rfl := Option.some.inj h
          exact wd_zret hA hQ hC hr hk hW rfl dX9_isAhead_59
  · replace h := ite_f h c5
    refine lv_aload_n hx hb dX9_isAhead_13 rfl (lv_at hl 0 rfl) ?_
    refine lv_iload_n hx hb dX9_isAhead_14 rfl (lv_at hl 2 rfl) ?_
    obtain ⟨r19, hr20, h⟩ := bd_of h
    refine wd_callV1 (As := [.int p1]) hC hW 0 wR_c0 rfl (c_X9_isOut l D cy ad X T p1 r19 hr20) (cwV 1 hts (gu_V w_11_20 w_11_17 w_11_18 w_11_19 w_1_5) rfl rfl rfl hdX9_isOut ⟨Nat.le_of_ble_eq_true rfl, Nat.le_of_ble_eq_true rfl⟩) rfl hl.1 rfl (Nat.le_of_ble_eq_true rfl) ⟨Nat.zero_le _, Nat.zero_le _⟩ dX9_isAhead_15 (fun H locs hW => ?_)
    obtain ⟨hb21, h⟩ := ckb_of h
    obtain rfl := Option.some.inj h
    exact wd_zret hA hQ hC hr hk hW (ckb_nar hb21) dX9_isAhead_18
def m_X9_aheadOf_L4 : Nat → St → Int32 → Int32 → Int32 → Option (Int32)
  | 0, _, _, _, _ => none
  | n + 1, T, x1, x2, x3 =>
    if (T.1 3) ≤ x3 then (some x2) else (((if x3 = x1 then (some 0) else ((m_X9_isAhead T x3 x1).bind (fun r9 => if r9 = 0 then (some 0) else (some 1))) : Option (Int32))).bind (fun q5 => (m_X9_flag T q5).bind (fun r7 => m_X9_aheadOf_L4 n T x1 (x2 + r7) (x3 + 1))))
theorem m_X9_aheadOf_L4_0 (T : St) (x1 : Int32) (x2 : Int32) (x3 : Int32) : m_X9_aheadOf_L4 0 T x1 x2 x3 = none := rfl
theorem m_X9_aheadOf_L4_s {n : Nat} {T : St} {x1 : Int32} {x2 : Int32} {x3 : Int32} : m_X9_aheadOf_L4 (n + 1) T x1 x2 x3 =
    (if (T.1 3) ≤ x3 then (some x2) else (((if x3 = x1 then (some 0) else ((m_X9_isAhead T x3 x1).bind (fun r9 => if r9 = 0 then (some 0) else (some 1))) : Option (Int32))).bind (fun q5 => (m_X9_flag T q5).bind (fun r7 => m_X9_aheadOf_L4 n T x1 (x2 + r7) (x3 + 1))))) := rfl
def m_X9_aheadOf (n : Nat) (T : St) (p0 : Int32) : Option (Int32) :=
  (m_X9_aheadOf_L4 n T p0 0 0).bind (fun q1 => some q1)
set_option maxHeartbeats 4000000 in
set_option maxRecDepth 100000 in
theorem c_X9_aheadOf (l : Launch) (D : va_G) (cy : Nat → ClassId) (ad : Nat → Nat) (X : va_W) (n : Nat) (T : St) (p0 : Int32) (r : (Int32)) (h : m_X9_aheadOf n T p0 = some r) : CT l yX9_aheadOf (wu yX9_aheadOf cX9_aheadOf 4 (some .int)) 4 D cy [.ref (ad 0), .int p0] (wR ad cy T ++ X) (some (.int r)) (wR ad cy T ++ X) := by
  refine CT.mk (cc := cX9_aheadOf) (maxL := 4) (ret := (some .int)) (own := RX9) (by decide) rfl rfl (Nat.le_of_ble_eq_true rfl) ?_
  intro p e s m args below meth c ls A Q hA hQ hC hr hk hW hl
  have hx := hC.1
  have hb := hC.2.1
  have hown := hC.2.2.2.1
  have hts := hC.2.2.2.2
  have hl : lv_has ls 4 [(0, .ref (ad 0)), (1, .int p0)] := hl
  have f84 := hts _ (wu_in w_9_13)
  have i9 := (fun w h => wu_in (inc_9 w h) : ∀ w ∈ u_ws RX9 TX9 40, w ∈ (wu yX9_aheadOf cX9_aheadOf 4 (some .int)))
  unfold m_X9_aheadOf at h
  refine lv_iconst (v := 0) hx hb dX9_aheadOf_0 (by decide) ?_
  refine lv_istore_n (lv' := [(2, .int 0), (0, .ref (ad 0)), (1, .int p0)]) hx hb dX9_aheadOf_1 rfl hl (by decide) rfl (fun ls hl => ?_)
  refine lv_iconst (v := 0) hx hb dX9_aheadOf_2 (by decide) ?_
  refine lv_istore_n (lv' := [(3, .int 0), (2, .int 0), (0, .ref (ad 0)), (1, .int p0)]) hx hb dX9_aheadOf_3 rfl hl (by decide) rfl (fun ls hl => ?_)
  have hL4 : ∀ (n : Nat) (x1 : Int32) (x2 : Int32) (x3 : Int32)  (H : Heap) (locs : List Loc) (ls : Array Slot) (r : (Int32)), m_X9_aheadOf_L4 n T x1 x2 x3 = some r → Wd D cy A s (wR ad cy T ++ X) H locs → lv_has ls 4 [(0, .ref (ad 0)), (1, .int x1), (2, .int x2), (3, .int x3)] → (∀ (H : Heap) (locs : List Loc) (ls : Array Slot), Wd D cy A s (wR ad cy T ++ X) H locs → lv_has ls 4 [(0, .ref (ad 0)), (1, .int x1), (2, .int r)] → W p l e (RM 4) s m args below meth c H locs 0 0 Q (F0 m 43 ls [])) → W p l e (RM 4) s m args below meth c H locs 0 0 Q (F0 m 4 ls []) := by
    intro n
    induction n with
    | zero =>
      intro x1 x2 x3  H locs ls r h
      exact absurd (h.symm.trans (m_X9_aheadOf_L4_0 ..)) (by simp)
    | succ n ih =>
      intro x1 x2 x3  H locs ls r h hW hl kk
      rw [m_X9_aheadOf_L4_s] at h
      refine lv_iload_n hx hb dX9_aheadOf_4 rfl (lv_at hl 3 rfl) ?_
      refine lv_aload_n hx hb dX9_aheadOf_5 rfl (lv_at hl 0 rfl) ?_
      refine wd_get hC i9 hW 0 wR_c0 rfl 3 (Nat.le_of_ble_eq_true rfl) f84 rfl rfl dX9_aheadOf_6 ?_
      refine lv_icmp_ge (tgt := 43) hx hb dX9_aheadOf_9 (by decide) (fun c3 => ?_) (fun c3 => ?_)
      · replace h := ite_t h c3
        obtain rfl := Option.some.inj h
        exact kk _ _ _ hW (lv_sub hl [0, 1, 2] rfl)
      · replace h := ite_f h c3
        refine lv_iload_n hx hb dX9_aheadOf_12 rfl (lv_at hl 2 rfl) ?_
        refine lv_iload_n hx hb dX9_aheadOf_13 rfl (lv_at hl 3 rfl) ?_
        refine lv_iload_n hx hb dX9_aheadOf_14 rfl (lv_at hl 1 rfl) ?_
        obtain ⟨q5, hq6, h⟩ := bd_of h
        have hJ32 : ∀ (H : Heap) (locs : List Loc) (ls : Array Slot), Wd D cy A s (wR ad cy T ++ X) H locs → lv_has ls 4 [(0, .ref (ad 0)), (1, .int x1), (2, .int x2), (3, .int x3)] → W p l e (RM 4) s m args below meth c H locs 0 0 Q (F0 m 32 ls [.int q5, .int x2]) := by
          intro H locs ls hW hl
          obtain ⟨r7, hr8, h⟩ := bd_of h
          refine wd_callS1 (As := [.int q5]) hC hW (c_X9_flag l D cy ad X T q5 r7 hr8) (va_cwS 1 hts (gu_S w_17_18 w_17_16 w_17_17 w_1_5) rfl rfl rfl hdX9_flag ⟨Nat.le_of_ble_eq_true rfl, Nat.le_of_ble_eq_true rfl⟩) rfl hl.1 rfl (Nat.le_of_ble_eq_true rfl) ⟨Nat.zero_le _, Nat.zero_le _⟩ dX9_aheadOf_32 (fun H locs hW => ?_)
          refine lv_iadd hx hb dX9_aheadOf_35 ?_
          refine lv_istore_n (lv' := [(2, .int (x2 + r7)), (0, .ref (ad 0)), (1, .int x1), (3, .int x3)]) hx hb dX9_aheadOf_36 rfl hl (by decide) rfl (fun ls hl => ?_)
          refine lv_iinc (v := x3 + 1) (lv' := [(3, .int (x3 + 1)), (2, .int (x2 + r7)), (0, .ref (ad 0)), (1, .int x1)]) hx hb dX9_aheadOf_37 hl (k := 3) rfl rfl (by decide) rfl (fun ls hl => ?_)
          refine lv_goto (tgt := 4) hx hb dX9_aheadOf_40 (by decide) ?_
          exact ih x1 (x2 + r7) (x3 + 1) _ _ _ r h hW (lv_sub hl [2, 3, 1, 0] rfl) kk
        replace h := hq6
        refine lv_icmp_eq (tgt := 31) hx hb dX9_aheadOf_15 (by decide) (fun c4 => ?_) (fun c4 => ?_)
        · replace h := ite_t h c4
          refine lv_iconst (v := 0) hx hb dX9_aheadOf_31 (by decide) ?_
          obtain rfl := Option.some.inj h
          exact hJ32 _ _ _ hW (lv_sub hl [0, 1, 2, 3] rfl)
        · replace h := ite_f h c4
          refine lv_aload_n hx hb dX9_aheadOf_18 rfl (lv_at hl 0 rfl) ?_
          refine lv_iload_n hx hb dX9_aheadOf_19 rfl (lv_at hl 3 rfl) ?_
          refine lv_iload_n hx hb dX9_aheadOf_20 rfl (lv_at hl 1 rfl) ?_
          obtain ⟨r9, hr10, h⟩ := bd_of h
          refine wd_callV1 (As := [.int x3, .int x1]) hC hW 0 wR_c0 rfl (c_X9_isAhead l D cy ad X T x3 x1 r9 hr10) (cwV 2 hts (gu_V w_24_3 w_24_0 w_24_1 w_24_2 w_1_5) rfl rfl rfl hdX9_isAhead ⟨Nat.le_of_ble_eq_true rfl, Nat.le_of_ble_eq_true rfl⟩) rfl hl.1 rfl (Nat.le_of_ble_eq_true rfl) ⟨Nat.zero_le _, Nat.zero_le _⟩ dX9_aheadOf_21 (fun H locs hW => ?_)
          refine lv_if_eq (tgt := 31) hx hb dX9_aheadOf_24 (by decide) (fun c11 => ?_) (fun c11 => ?_)
          · replace h := ite_t h c11
            refine lv_iconst (v := 0) hx hb dX9_aheadOf_31 (by decide) ?_
            obtain rfl := Option.some.inj h
            exact hJ32 _ _ _ hW (lv_sub hl [0, 1, 2, 3] rfl)
          · replace h := ite_f h c11
            refine lv_iconst (v := 1) hx hb dX9_aheadOf_27 (by decide) ?_
            refine lv_goto (tgt := 32) hx hb dX9_aheadOf_28 (by decide) ?_
            obtain rfl := Option.some.inj h
            exact hJ32 _ _ _ hW (lv_sub hl [0, 1, 2, 3] rfl)
  obtain ⟨q1, hq2, h⟩ := bd_of h
  refine hL4 n p0 0 0  _ _ _ q1 hq2 hW (lv_sub hl [2, 3, 1, 0] rfl) (fun H locs ls hW hl => ?_)
  refine lv_iload_n hx hb dX9_aheadOf_43 rfl (lv_at hl 2 rfl) ?_
  obtain rfl := Option.some.inj h
  exact wd_iret hA hQ hC hr hk hW dX9_aheadOf_44
def m_X9_entersPlaces_L17 : Nat → St → Int32 → Int32 → Option (St)
  | 0, _, _, _ => none
  | n + 1, T, x1, x2 =>
    if (T.1 3) ≤ x2 then (some T) else ((m_X9_aheadOf n T x2).bind (fun r9 => if r9 = x1 then ((m_X9_notes T x2.toInt64).bind (fun r12 => m_X9_entersPlaces_L17 n r12 x1 (x2 + 1))) else (m_X9_entersPlaces_L17 n T x1 (x2 + 1))))
theorem m_X9_entersPlaces_L17_0 (T : St) (x1 : Int32) (x2 : Int32) : m_X9_entersPlaces_L17 0 T x1 x2 = none := rfl
theorem m_X9_entersPlaces_L17_s {n : Nat} {T : St} {x1 : Int32} {x2 : Int32} : m_X9_entersPlaces_L17 (n + 1) T x1 x2 =
    (if (T.1 3) ≤ x2 then (some T) else ((m_X9_aheadOf n T x2).bind (fun r9 => if r9 = x1 then ((m_X9_notes T x2.toInt64).bind (fun r12 => m_X9_entersPlaces_L17 n r12 x1 (x2 + 1))) else (m_X9_entersPlaces_L17 n T x1 (x2 + 1))))) := rfl
def m_X9_entersPlaces_L7 : Nat → St → Int32 → Option (St)
  | 0, _, _ => none
  | n + 1, T, x1 =>
    if (T.1 3) ≤ x1 then (some T) else ((m_X9_entersPlaces_L17 n T x1 0).bind (fun q6 => m_X9_entersPlaces_L7 n q6 (x1 + 1)))
theorem m_X9_entersPlaces_L7_0 (T : St) (x1 : Int32) : m_X9_entersPlaces_L7 0 T x1 = none := rfl
theorem m_X9_entersPlaces_L7_s {n : Nat} {T : St} {x1 : Int32} : m_X9_entersPlaces_L7 (n + 1) T x1 =
    (if (T.1 3) ≤ x1 then (some T) else ((m_X9_entersPlaces_L17 n T x1 0).bind (fun q6 => m_X9_entersPlaces_L7 n q6 (x1 + 1)))) := rfl
def m_X9_entersPlaces (n : Nat) (T : St) : Option (St) :=
  nm (sI T 1 0) (fun T1 => (m_X9_entersPlaces_L7 n T1 0).bind (fun q3 => some q3))
set_option maxHeartbeats 4000000 in
set_option maxRecDepth 100000 in
theorem c_X9_entersPlaces (l : Launch) (D : va_G) (cy : Nat → ClassId) (ad : Nat → Nat) (X : va_W) (n : Nat) (T : St) (r : (St)) (h : m_X9_entersPlaces n T = some r) : CT l yX9_entersPlaces (wu yX9_entersPlaces cX9_entersPlaces 3 none) 5 D cy [.ref (ad 0)] (wR ad cy T ++ X) (none) (wR ad cy r ++ X) := by
  refine CT.mk (cc := cX9_entersPlaces) (maxL := 3) (ret := none) (own := RX9) (by decide) rfl rfl (Nat.le_of_ble_eq_true rfl) ?_
  intro p e s m args below meth c ls A Q hA hQ hC hr hk hW hl
  have hx := hC.1
  have hb := hC.2.1
  have hown := hC.2.2.2.1
  have hts := hC.2.2.2.2
  have hl : lv_has ls 3 [(0, .ref (ad 0))] := hl
  have f81 := hts _ (wu_in w_19_2)
  have i9 := (fun w h => wu_in (inc_9 w h) : ∀ w ∈ u_ws RX9 TX9 40, w ∈ (wu yX9_entersPlaces cX9_entersPlaces 3 none))
  have f84 := hts _ (wu_in w_9_13)
  unfold m_X9_entersPlaces at h
  refine lv_aload_n hx hb dX9_entersPlaces_0 rfl (lv_at hl 0 rfl) ?_
  refine lv_iconst (v := 0) hx hb dX9_entersPlaces_1 (by decide) ?_
  refine wd_put hC i9 tyX9_ok nmX9 hW 0 wR_c0 rfl 1 (Nat.le_of_ble_eq_true rfl) f81 rfl rfl rfl rfl (Nat.le_of_ble_eq_true rfl) wR_s0_1 dX9_entersPlaces_2 (fun H locs hW => ?_)
  obtain ⟨T1, e2, h⟩ := nm_of h
  replace hW := wq_T e2 hW
  refine lv_iconst (v := 0) hx hb dX9_entersPlaces_5 (by decide) ?_
  refine lv_istore_n (lv' := [(1, .int 0), (0, .ref (ad 0))]) hx hb dX9_entersPlaces_6 rfl hl (by decide) rfl (fun ls hl => ?_)
  have hL7 : ∀ (n : Nat) (T : St) (x1 : Int32)  (H : Heap) (locs : List Loc) (ls : Array Slot) (r : (St)), m_X9_entersPlaces_L7 n T x1 = some r → Wd D cy A s (wR ad cy T ++ X) H locs → lv_has ls 3 [(0, .ref (ad 0)), (1, .int x1)] → (∀ (H : Heap) (locs : List Loc) (ls : Array Slot), Wd D cy A s (wR ad cy r ++ X) H locs → lv_has ls 3 [(0, .ref (ad 0))] → W p l e (RM 5) s m args below meth c H locs 0 0 Q (F0 m 52 ls [])) → W p l e (RM 5) s m args below meth c H locs 0 0 Q (F0 m 7 ls []) := by
    intro n
    induction n with
    | zero =>
      intro T x1  H locs ls r h
      exact absurd (h.symm.trans (m_X9_entersPlaces_L7_0 ..)) (by simp)
    | succ n ih =>
      intro T x1  H locs ls r h hW hl kk
      rw [m_X9_entersPlaces_L7_s] at h
      refine lv_iload_n hx hb dX9_entersPlaces_7 rfl (lv_at hl 1 rfl) ?_
      refine lv_aload_n hx hb dX9_entersPlaces_8 rfl (lv_at hl 0 rfl) ?_
      refine wd_get hC i9 hW 0 wR_c0 rfl 3 (Nat.le_of_ble_eq_true rfl) f84 rfl rfl dX9_entersPlaces_9 ?_
      refine lv_icmp_ge (tgt := 52) hx hb dX9_entersPlaces_12 (by decide) (fun c5 => ?_) (fun c5 => ?_)
      · replace h := ite_t h c5
        obtain rfl := Option.some.inj h
        exact kk _ _ _ hW (lv_sub hl [0] rfl)
      · replace h := ite_f h c5
        refine lv_iconst (v := 0) hx hb dX9_entersPlaces_15 (by decide) ?_
        refine lv_istore_n (lv' := [(2, .int 0), (0, .ref (ad 0)), (1, .int x1)]) hx hb dX9_entersPlaces_16 rfl hl (by decide) rfl (fun ls hl => ?_)
        have hL17 : ∀ (n : Nat) (T : St) (x1 : Int32) (x2 : Int32)  (H : Heap) (locs : List Loc) (ls : Array Slot) (r : (St)), m_X9_entersPlaces_L17 n T x1 x2 = some r → Wd D cy A s (wR ad cy T ++ X) H locs → lv_has ls 3 [(0, .ref (ad 0)), (1, .int x1), (2, .int x2)] → (∀ (H : Heap) (locs : List Loc) (ls : Array Slot), Wd D cy A s (wR ad cy r ++ X) H locs → lv_has ls 3 [(0, .ref (ad 0)), (1, .int x1)] → W p l e (RM 5) s m args below meth c H locs 0 0 Q (F0 m 46 ls [])) → W p l e (RM 5) s m args below meth c H locs 0 0 Q (F0 m 17 ls []) := by
          intro n
          induction n with
          | zero =>
            intro T x1 x2  H locs ls r h
            exact absurd (h.symm.trans (m_X9_entersPlaces_L17_0 ..)) (by simp)
          | succ n ih =>
            intro T x1 x2  H locs ls r h hW hl kk
            rw [m_X9_entersPlaces_L17_s] at h
            refine lv_iload_n hx hb dX9_entersPlaces_17 rfl (lv_at hl 2 rfl) ?_
            refine lv_aload_n hx hb dX9_entersPlaces_18 rfl (lv_at hl 0 rfl) ?_
            refine wd_get hC i9 hW 0 wR_c0 rfl 3 (Nat.le_of_ble_eq_true rfl) f84 rfl rfl dX9_entersPlaces_19 ?_
            refine lv_icmp_ge (tgt := 46) hx hb dX9_entersPlaces_22 (by decide) (fun c8 => ?_) (fun c8 => ?_)
            · replace h := ite_t h c8
              obtain rfl := Option.some.inj h
              exact kk _ _ _ hW (lv_sub hl [0, 1] rfl)
            · replace h := ite_f h c8
              refine lv_aload_n hx hb dX9_entersPlaces_25 rfl (lv_at hl 0 rfl) ?_
              refine lv_iload_n hx hb dX9_entersPlaces_26 rfl (lv_at hl 2 rfl) ?_
              obtain ⟨r9, hr10, h⟩ := bd_of h
              refine wd_callV1 (As := [.int x2]) hC hW 0 wR_c0 rfl (c_X9_aheadOf l D cy ad X n T x2 r9 hr10) (cwV 1 hts (gu_V w_23_23 w_23_20 w_23_21 w_23_22 w_1_5) rfl rfl rfl hdX9_aheadOf ⟨Nat.le_of_ble_eq_true rfl, Nat.le_of_ble_eq_true rfl⟩) rfl hl.1 rfl (Nat.le_of_ble_eq_true rfl) ⟨Nat.zero_le _, Nat.zero_le _⟩ dX9_entersPlaces_27 (fun H locs hW => ?_)
              refine lv_iload_n hx hb dX9_entersPlaces_30 rfl (lv_at hl 1 rfl) ?_
              refine lv_icmp_ne (tgt := 40) hx hb dX9_entersPlaces_31 (by decide) (fun c11 => ?_) (fun c11 => ?_)
              · replace h := ite_f h c11
                refine lv_iinc (v := x2 + 1) (lv' := [(2, .int (x2 + 1)), (0, .ref (ad 0)), (1, .int x1)]) hx hb dX9_entersPlaces_40 hl (k := 2) rfl rfl (by decide) rfl (fun ls hl => ?_)
                refine lv_goto (tgt := 17) hx hb dX9_entersPlaces_43 (by decide) ?_
                exact ih T x1 (x2 + 1) _ _ _ r h hW (lv_sub hl [1, 2, 0] rfl) kk
              · replace h := ite_t h c11
                refine lv_aload_n hx hb dX9_entersPlaces_34 rfl (lv_at hl 0 rfl) ?_
                refine lv_iload_n hx hb dX9_entersPlaces_35 rfl (lv_at hl 2 rfl) ?_
                refine lv_i2l (v := x2.toInt64) hx hb dX9_entersPlaces_36 rfl ?_
                obtain ⟨r12, hr13, h⟩ := bd_of h
                refine wd_callV0 (As := [.long x2.toInt64]) hC hW 0 wR_c0 rfl (c_X9_notes l D cy ad X T x2.toInt64 r12 hr13) (cwV 1 hts (gu_V w_19_14 w_19_11 w_19_12 w_19_13 w_1_5) rfl rfl rfl hdX9_notes ⟨Nat.le_of_ble_eq_true rfl, Nat.le_of_ble_eq_true rfl⟩) rfl hl.1 rfl (Nat.le_of_ble_eq_true rfl) ⟨Nat.zero_le _, Nat.zero_le _⟩ dX9_entersPlaces_37 (fun H locs hW => ?_)
                refine lv_iinc (v := x2 + 1) (lv' := [(2, .int (x2 + 1)), (0, .ref (ad 0)), (1, .int x1)]) hx hb dX9_entersPlaces_40 hl (k := 2) rfl rfl (by decide) rfl (fun ls hl => ?_)
                refine lv_goto (tgt := 17) hx hb dX9_entersPlaces_43 (by decide) ?_
                exact ih r12 x1 (x2 + 1) _ _ _ r h hW (lv_sub hl [1, 2, 0] rfl) kk
        obtain ⟨q6, hq7, h⟩ := bd_of h
        refine hL17 n T x1 0  _ _ _ q6 hq7 hW (lv_sub hl [1, 2, 0] rfl) (fun H locs ls hW hl => ?_)
        refine lv_iinc (v := x1 + 1) (lv' := [(1, .int (x1 + 1)), (0, .ref (ad 0))]) hx hb dX9_entersPlaces_46 hl (k := 1) rfl rfl (by decide) rfl (fun ls hl => ?_)
        refine lv_goto (tgt := 7) hx hb dX9_entersPlaces_49 (by decide) ?_
        exact ih q6 (x1 + 1) _ _ _ r h hW (lv_sub hl [1, 0] rfl) kk
  obtain ⟨q3, hq4, h⟩ := bd_of h
  refine hL7 n T1 0  _ _ _ q3 hq4 hW (lv_sub hl [1, 0] rfl) (fun H locs ls hW hl => ?_)
  obtain rfl := Option.some.inj h
  exact wd_vret hA hQ hC hr hk hW dX9_entersPlaces_52
