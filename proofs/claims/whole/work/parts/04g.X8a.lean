theorem hdX0_beMass : yX0_beMass.cls = RX0 ∧ yX0_beMass.cls ≠ "java/lang/invoke/MethodHandle" ∧ yX0_beMass.cls ≠ "java/lang/invoke/VarHandle" ∧ (parseMethodDescriptor yX0_beMass.desc).map (fun d => d.parameters.length) = some 0 := by decide +kernel
theorem hdX0_beStep : yX0_beStep.cls = RX0 ∧ yX0_beStep.cls ≠ "java/lang/invoke/MethodHandle" ∧ yX0_beStep.cls ≠ "java/lang/invoke/VarHandle" ∧ (parseMethodDescriptor yX0_beStep.desc).map (fun d => d.parameters.length) = some 0 := by decide +kernel
theorem hdX0_beSure : yX0_beSure.cls = RX0 ∧ yX0_beSure.cls ≠ "java/lang/invoke/MethodHandle" ∧ yX0_beSure.cls ≠ "java/lang/invoke/VarHandle" ∧ (parseMethodDescriptor yX0_beSure.desc).map (fun d => d.parameters.length) = some 0 := by decide +kernel
theorem hdX0_timesBeat : yX0_timesBeat.cls = RX0 ∧ yX0_timesBeat.cls ≠ "java/lang/invoke/MethodHandle" ∧ yX0_timesBeat.cls ≠ "java/lang/invoke/VarHandle" ∧ (parseMethodDescriptor yX0_timesBeat.desc).map (fun d => d.parameters.length) = some 2 := by decide +kernel
theorem hdX4_copy : yX4_copy.cls = RX4 ∧ yX4_copy.cls ≠ "java/lang/invoke/MethodHandle" ∧ yX4_copy.cls ≠ "java/lang/invoke/VarHandle" ∧ (parseMethodDescriptor yX4_copy.desc).map (fun d => d.parameters.length) = some 1 := by decide +kernel
theorem hdX4_drawOn : yX4_drawOn.cls = RX4 ∧ yX4_drawOn.cls ≠ "java/lang/invoke/MethodHandle" ∧ yX4_drawOn.cls ≠ "java/lang/invoke/VarHandle" ∧ (parseMethodDescriptor yX4_drawOn.desc).map (fun d => d.parameters.length) = some 1 := by decide +kernel
theorem hdX4_open : yX4_open.cls = RX4 ∧ yX4_open.cls ≠ "java/lang/invoke/MethodHandle" ∧ yX4_open.cls ≠ "java/lang/invoke/VarHandle" ∧ (parseMethodDescriptor yX4_open.desc).map (fun d => d.parameters.length) = some 0 := by decide +kernel
theorem hdX4_outBits : yX4_outBits.cls = RX4 ∧ yX4_outBits.cls ≠ "java/lang/invoke/MethodHandle" ∧ yX4_outBits.cls ≠ "java/lang/invoke/VarHandle" ∧ (parseMethodDescriptor yX4_outBits.desc).map (fun d => d.parameters.length) = some 0 := by decide +kernel
theorem hdX4_wouldLead : yX4_wouldLead.cls = RX4 ∧ yX4_wouldLead.cls ≠ "java/lang/invoke/MethodHandle" ∧ yX4_wouldLead.cls ≠ "java/lang/invoke/VarHandle" ∧ (parseMethodDescriptor yX4_wouldLead.desc).map (fun d => d.parameters.length) = some 3 := by decide +kernel
theorem hdX5_look : yX5_look.cls = RX5 ∧ yX5_look.cls ≠ "java/lang/invoke/MethodHandle" ∧ yX5_look.cls ≠ "java/lang/invoke/VarHandle" ∧ (parseMethodDescriptor yX5_look.desc).map (fun d => d.parameters.length) = some 2 := by decide +kernel
theorem hdX6_prepare : yX6_prepare.cls = RX6 ∧ yX6_prepare.cls ≠ "java/lang/invoke/MethodHandle" ∧ yX6_prepare.cls ≠ "java/lang/invoke/VarHandle" ∧ (parseMethodDescriptor yX6_prepare.desc).map (fun d => d.parameters.length) = some 3 := by decide +kernel
theorem hdX6_valueFrom : yX6_valueFrom.cls = RX6 ∧ yX6_valueFrom.cls ≠ "java/lang/invoke/MethodHandle" ∧ yX6_valueFrom.cls ≠ "java/lang/invoke/VarHandle" ∧ (parseMethodDescriptor yX6_valueFrom.desc).map (fun d => d.parameters.length) = some 1 := by decide +kernel
theorem hdX7_append : yX7_append.cls = RX7 ∧ yX7_append.cls ≠ "java/lang/invoke/MethodHandle" ∧ yX7_append.cls ≠ "java/lang/invoke/VarHandle" ∧ (parseMethodDescriptor yX7_append.desc).map (fun d => d.parameters.length) = some 1 := by decide +kernel
theorem hdX7_readLifter : yX7_readLifter.cls = RX7 ∧ yX7_readLifter.cls ≠ "java/lang/invoke/MethodHandle" ∧ yX7_readLifter.cls ≠ "java/lang/invoke/VarHandle" ∧ (parseMethodDescriptor yX7_readLifter.desc).map (fun d => d.parameters.length) = some 2 := by decide +kernel
theorem hdX7_shorten : yX7_shorten.cls = RX7 ∧ yX7_shorten.cls ≠ "java/lang/invoke/MethodHandle" ∧ yX7_shorten.cls ≠ "java/lang/invoke/VarHandle" ∧ (parseMethodDescriptor yX7_shorten.desc).map (fun d => d.parameters.length) = some 1 := by decide +kernel
theorem hdX8_aimAheadOfAll : yX8_aimAheadOfAll.cls = RX8 ∧ yX8_aimAheadOfAll.cls ≠ "java/lang/invoke/MethodHandle" ∧ yX8_aimAheadOfAll.cls ≠ "java/lang/invoke/VarHandle" ∧ (parseMethodDescriptor yX8_aimAheadOfAll.desc).map (fun d => d.parameters.length) = some 1 := by decide +kernel
theorem hdX8_aimToBeat : yX8_aimToBeat.cls = RX8 ∧ yX8_aimToBeat.cls ≠ "java/lang/invoke/MethodHandle" ∧ yX8_aimToBeat.cls ≠ "java/lang/invoke/VarHandle" ∧ (parseMethodDescriptor yX8_aimToBeat.desc).map (fun d => d.parameters.length) = some 2 := by decide +kernel
theorem hdX8_allFail : yX8_allFail.cls = RX8 ∧ yX8_allFail.cls ≠ "java/lang/invoke/MethodHandle" ∧ yX8_allFail.cls ≠ "java/lang/invoke/VarHandle" ∧ (parseMethodDescriptor yX8_allFail.desc).map (fun d => d.parameters.length) = some 4 := by decide +kernel
theorem hdX8_byPlan : yX8_byPlan.cls = RX8 ∧ yX8_byPlan.cls ≠ "java/lang/invoke/MethodHandle" ∧ yX8_byPlan.cls ≠ "java/lang/invoke/VarHandle" ∧ (parseMethodDescriptor yX8_byPlan.desc).map (fun d => d.parameters.length) = some 1 := by decide +kernel
theorem hdX8_isAimed : yX8_isAimed.cls ≠ "java/lang/invoke/MethodHandle" ∧ yX8_isAimed.cls ≠ "java/lang/invoke/VarHandle" ∧ (parseMethodDescriptor yX8_isAimed.desc).map (fun d => d.parameters.length) = some 1 := by decide +kernel
theorem hdX8_isLift : yX8_isLift.cls ≠ "java/lang/invoke/MethodHandle" ∧ yX8_isLift.cls ≠ "java/lang/invoke/VarHandle" ∧ (parseMethodDescriptor yX8_isLift.desc).map (fun d => d.parameters.length) = some 1 := by decide +kernel
theorem hdX8_isLifter : yX8_isLifter.cls = RX8 ∧ yX8_isLifter.cls ≠ "java/lang/invoke/MethodHandle" ∧ yX8_isLifter.cls ≠ "java/lang/invoke/VarHandle" ∧ (parseMethodDescriptor yX8_isLifter.desc).map (fun d => d.parameters.length) = some 1 := by decide +kernel
theorem hdX8_isPlan : yX8_isPlan.cls ≠ "java/lang/invoke/MethodHandle" ∧ yX8_isPlan.cls ≠ "java/lang/invoke/VarHandle" ∧ (parseMethodDescriptor yX8_isPlan.desc).map (fun d => d.parameters.length) = some 2 := by decide +kernel
theorem hdX8_reckonChances : yX8_reckonChances.cls = RX8 ∧ yX8_reckonChances.cls ≠ "java/lang/invoke/MethodHandle" ∧ yX8_reckonChances.cls ≠ "java/lang/invoke/VarHandle" ∧ (parseMethodDescriptor yX8_reckonChances.desc).map (fun d => d.parameters.length) = some 1 := by decide +kernel
theorem hdX8_tellPlaces : yX8_tellPlaces.cls = RX8 ∧ yX8_tellPlaces.cls ≠ "java/lang/invoke/MethodHandle" ∧ yX8_tellPlaces.cls ≠ "java/lang/invoke/VarHandle" ∧ (parseMethodDescriptor yX8_tellPlaces.desc).map (fun d => d.parameters.length) = some 0 := by decide +kernel
theorem hdX8_tellTwo : yX8_tellTwo.cls = RX8 ∧ yX8_tellTwo.cls ≠ "java/lang/invoke/MethodHandle" ∧ yX8_tellTwo.cls ≠ "java/lang/invoke/VarHandle" ∧ (parseMethodDescriptor yX8_tellTwo.desc).map (fun d => d.parameters.length) = some 2 := by decide +kernel
def m_X8_sign (n : Nat) (S : St) (p0 : Int32) : Option (Int32 × St) :=
  (m_X7_append n S p0).bind (fun r1 => if r1.1 = 0 then (some ((-1), r1.2)) else (some (r1.2.1 1, r1.2)))
set_option maxHeartbeats 4000000 in
set_option maxRecDepth 100000 in
theorem c_X8_sign (l : Launch) (D : va_G) (cy : Nat → ClassId) (ad : Nat → Nat) (X : va_W) (n : Nat) (S : St) (p0 : Int32) (r : (Int32 × St)) (h : m_X8_sign n S p0 = some r) : CT l yX8_sign (wu yX8_sign cX8_sign 2 (some .int)) 1 D cy [.ref (ad 0), .int p0] (wC ad cy S ++ X) (some (.int r.1)) (wC ad cy r.2 ++ X) := by
  refine CT.mk (cc := cX8_sign) (maxL := 2) (ret := (some .int)) (own := RX8) (by decide) rfl rfl (Nat.le_of_ble_eq_true rfl) ?_
  intro p e s m args below meth c ls A Q hA hQ hC hr hk hW hl
  have hx := hC.1
  have hb := hC.2.1
  have hown := hC.2.2.2.1
  have hts := hC.2.2.2.2
  have hl : lv_has ls 2 [(0, .ref (ad 0)), (1, .int p0)] := hl
  have f12 := hts _ (wu_in w_1_16)
  have i8 := (fun w h => wu_in (inc_8 w h) : ∀ w ∈ u_ws RX8 TX8 12, w ∈ (wu yX8_sign cX8_sign 2 (some .int)))
  have f81 := hts _ (wu_in w_6_5)
  have i7 := (fun w h => wu_in (inc_7 w h) : ∀ w ∈ u_ws RX7 TX7 4, w ∈ (wu yX8_sign cX8_sign 2 (some .int)))
  unfold m_X8_sign at h
  refine lv_aload_n hx hb dX8_sign_0 rfl (lv_at hl 0 rfl) ?_
  refine wd_get hC i8 hW 0 wC_c0 rfl 0 (Nat.le_of_ble_eq_true rfl) f12 rfl rfl dX8_sign_1 ?_
  refine lv_iload_n hx hb dX8_sign_4 rfl (lv_at hl 1 rfl) ?_
  obtain ⟨r1, hr2, h⟩ := bd_of h
  refine wd_callV1 (As := [.int p0]) hC hW 1 wC_c1 rfl (c_X7_append l D cy ad X n S p0 r1 hr2) (cwV 1 hts (gu_V w_6_9 w_6_6 w_6_7 w_6_8 w_1_15) rfl rfl rfl hdX7_append ⟨Nat.le_of_ble_eq_true rfl, Nat.le_of_ble_eq_true rfl⟩) rfl hl.1 rfl (Nat.le_of_ble_eq_true rfl) ⟨Nat.zero_le _, Nat.zero_le _⟩ dX8_sign_5 (fun H locs hW => ?_)
  refine lv_if_eq (tgt := 21) hx hb dX8_sign_8 (by decide) (fun c3 => ?_) (fun c3 => ?_)
  · replace h := ite_t h c3
    refine lv_iconst (v := (-1)) hx hb dX8_sign_21 (by decide) ?_
    obtain rfl := Option.some.inj h
    exact wd_iret hA hQ hC hr hk hW dX8_sign_22
  · replace h := ite_f h c3
    refine lv_aload_n hx hb dX8_sign_11 rfl (lv_at hl 0 rfl) ?_
    refine wd_get hC i8 hW 0 wC_c0 rfl 0 (Nat.le_of_ble_eq_true rfl) f12 rfl rfl dX8_sign_12 ?_
    refine wd_get hC i7 hW 1 wC_c1 rfl 1 (Nat.le_of_ble_eq_true rfl) f81 rfl rfl dX8_sign_15 ?_
    refine lv_goto (tgt := 22) hx hb dX8_sign_18 (by decide) ?_
    obtain rfl := Option.some.inj h
    exact wd_iret hA hQ hC hr hk hW dX8_sign_22
def m_X8_end (S : St) (p0 : Int32) : Option (Int32 × St) :=
  (m_X7_shorten S p0).bind (fun r1 => ckb r1.1 (some (r1.1, r1.2)))
set_option maxHeartbeats 4000000 in
set_option maxRecDepth 100000 in
theorem c_X8_end (l : Launch) (D : va_G) (cy : Nat → ClassId) (ad : Nat → Nat) (X : va_W) (S : St) (p0 : Int32) (r : (Int32 × St)) (h : m_X8_end S p0 = some r) : CT l yX8_end (wu yX8_end cX8_end 2 (some .boolean)) 1 D cy [.ref (ad 0), .int p0] (wC ad cy S ++ X) (some (.int r.1)) (wC ad cy r.2 ++ X) := by
  refine CT.mk (cc := cX8_end) (maxL := 2) (ret := (some .boolean)) (own := RX8) (by decide) rfl rfl (Nat.le_of_ble_eq_true rfl) ?_
  intro p e s m args below meth c ls A Q hA hQ hC hr hk hW hl
  have hx := hC.1
  have hb := hC.2.1
  have hown := hC.2.2.2.1
  have hts := hC.2.2.2.2
  have hl : lv_has ls 2 [(0, .ref (ad 0)), (1, .int p0)] := hl
  have f12 := hts _ (wu_in w_1_16)
  have i8 := (fun w h => wu_in (inc_8 w h) : ∀ w ∈ u_ws RX8 TX8 12, w ∈ (wu yX8_end cX8_end 2 (some .boolean)))
  unfold m_X8_end at h
  refine lv_aload_n hx hb dX8_end_0 rfl (lv_at hl 0 rfl) ?_
  refine wd_get hC i8 hW 0 wC_c0 rfl 0 (Nat.le_of_ble_eq_true rfl) f12 rfl rfl dX8_end_1 ?_
  refine lv_iload_n hx hb dX8_end_4 rfl (lv_at hl 1 rfl) ?_
  obtain ⟨r1, hr2, h⟩ := bd_of h
  refine wd_callV1 (As := [.int p0]) hC hW 1 wC_c1 rfl (c_X7_shorten l D cy ad X S p0 r1 hr2) (cwV 1 hts (gu_V w_6_23 w_6_20 w_6_21 w_6_22 w_1_15) rfl rfl rfl hdX7_shorten ⟨Nat.le_of_ble_eq_true rfl, Nat.le_of_ble_eq_true rfl⟩) rfl hl.1 rfl (Nat.le_of_ble_eq_true rfl) ⟨Nat.zero_le _, Nat.zero_le _⟩ dX8_end_5 (fun H locs hW => ?_)
  obtain ⟨hb3, h⟩ := ckb_of h
  obtain rfl := Option.some.inj h
  exact wd_zret hA hQ hC hr hk hW (ckb_nar hb3) dX8_end_8
def m_X8_enters (n : Nat) (S : St) : Option (Int32 × St) :=
  (m_X7_readLifter n S (S.1 30)).bind (fun r1 => (m_X7_shorten r1.2 0).bind (fun r3 => if r1.1 < 0 then (if (r3.2.1 30) < 6 then (nm (sI r3.2 30 ((r3.2.1 30) + 1)) (fun S7 => (m_X4_open 30 25 n S7).bind (fun r9 => some ((r9.1 30) - 1, r9)))) else (some ((-2), r3.2))) else (some ((-21) - r1.1, r3.2))))
set_option maxHeartbeats 4000000 in
set_option maxRecDepth 100000 in
theorem c_X8_enters (l : Launch) (D : va_G) (cy : Nat → ClassId) (ad : Nat → Nat) (X : va_W) (n : Nat) (S : St) (r : (Int32 × St)) (h : m_X8_enters n S = some r) : CT l yX8_enters (wu yX8_enters cX8_enters 2 (some .int)) 4 D cy [.ref (ad 0)] (wC ad cy S ++ X) (some (.int r.1)) (wC ad cy r.2 ++ X) := by
  refine CT.mk (cc := cX8_enters) (maxL := 2) (ret := (some .int)) (own := RX8) (by decide) rfl rfl (Nat.le_of_ble_eq_true rfl) ?_
  intro p e s m args below meth c ls A Q hA hQ hC hr hk hW hl
  have hx := hC.1
  have hb := hC.2.1
  have hown := hC.2.2.2.1
  have hts := hC.2.2.2.2
  have hl : lv_has ls 2 [(0, .ref (ad 0))] := hl
  have f12 := hts _ (wu_in w_1_16)
  have i8 := (fun w h => wu_in (inc_8 w h) : ∀ w ∈ u_ws RX8 TX8 12, w ∈ (wu yX8_enters cX8_enters 2 (some .int)))
  have f18 := hts _ (wu_in w_1_18)
  have f28 := hts _ (wu_in w_2_0)
  have f87 := hts _ (wu_in w_7_11)
  have i4 := (fun w h => wu_in (inc_4 w h) : ∀ w ∈ u_ws RX4 TX4 16, w ∈ (wu yX8_enters cX8_enters 2 (some .int)))
  unfold m_X8_enters at h
  refine lv_aload_n hx hb dX8_enters_0 rfl (lv_at hl 0 rfl) ?_
  refine wd_get hC i8 hW 0 wC_c0 rfl 0 (Nat.le_of_ble_eq_true rfl) f12 rfl rfl dX8_enters_1 ?_
  refine lv_aload_n hx hb dX8_enters_4 rfl (lv_at hl 0 rfl) ?_
  refine wd_get hC i8 hW 0 wC_c0 rfl 1 (Nat.le_of_ble_eq_true rfl) f18 rfl rfl dX8_enters_5 ?_
  refine lv_aload_n hx hb dX8_enters_8 rfl (lv_at hl 0 rfl) ?_
  refine wd_get hC i8 hW 0 wC_c0 rfl 2 (Nat.le_of_ble_eq_true rfl) f28 rfl rfl dX8_enters_9 ?_
  refine wd_get hC i4 hW 25 wC_c25 rfl 1 (Nat.le_of_ble_eq_true rfl) f87 rfl rfl dX8_enters_12 ?_
  obtain ⟨r1, hr2, h⟩ := bd_of h
  refine wd_callV1 (As := [.ref (ad 3), .int (S.1 30)]) hC hW 1 wC_c1 rfl (c_X7_readLifter l D cy ad X n S (S.1 30) r1 hr2) (cwV 2 hts (gu_V w_7_15 w_7_12 w_7_13 w_7_14 w_1_15) rfl rfl rfl hdX7_readLifter ⟨Nat.le_of_ble_eq_true rfl, Nat.le_of_ble_eq_true rfl⟩) rfl hl.1 rfl (Nat.le_of_ble_eq_true rfl) ⟨Nat.zero_le _, Nat.zero_le _⟩ dX8_enters_15 (fun H locs hW => ?_)
  refine lv_istore_n (lv' := [(1, .int r1.1), (0, .ref (ad 0))]) hx hb dX8_enters_18 rfl hl (by decide) rfl (fun ls hl => ?_)
  refine lv_aload_n hx hb dX8_enters_19 rfl (lv_at hl 1 rfl) ?_
  refine wd_get hC i8 hW 0 wC_c0 rfl 0 (Nat.le_of_ble_eq_true rfl) f12 rfl rfl dX8_enters_20 ?_
  refine lv_iconst (v := 0) hx hb dX8_enters_23 (by decide) ?_
  obtain ⟨r3, hr4, h⟩ := bd_of h
  refine wd_callV1 (As := [.int 0]) hC hW 1 wC_c1 rfl (c_X7_shorten l D cy ad X r1.2 0 r3 hr4) (cwV 1 hts (gu_V w_6_23 w_6_20 w_6_21 w_6_22 w_1_15) rfl rfl rfl hdX7_shorten ⟨Nat.le_of_ble_eq_true rfl, Nat.le_of_ble_eq_true rfl⟩) rfl hl.1 rfl (Nat.le_of_ble_eq_true rfl) ⟨Nat.zero_le _, Nat.zero_le _⟩ dX8_enters_24 (fun H locs hW => ?_)
  refine lv_pop hx hb dX8_enters_27 rfl ?_
  refine lv_iload_n hx hb dX8_enters_28 rfl (lv_at hl 0 rfl) ?_
  refine lv_if_lt (tgt := 37) hx hb dX8_enters_29 (by decide) (fun c5 => ?_) (fun c5 => ?_)
  · replace h := ite_t h c5
    refine lv_aload_n hx hb dX8_enters_37 rfl (lv_at hl 1 rfl) ?_
    refine wd_get hC i8 hW 0 wC_c0 rfl 2 (Nat.le_of_ble_eq_true rfl) f28 rfl rfl dX8_enters_38 ?_
    refine wd_get hC i4 hW 25 wC_c25 rfl 1 (Nat.le_of_ble_eq_true rfl) f87 rfl rfl dX8_enters_41 ?_
    refine lv_bipush (v := 6) hx hb dX8_enters_44 (by decide) ?_
    refine lv_icmp_lt (tgt := 52) hx hb dX8_enters_46 (by decide) (fun c6 => ?_) (fun c6 => ?_)
    · replace h := ite_t h c6
      refine lv_aload_n hx hb dX8_enters_52 rfl (lv_at hl 1 rfl) ?_
      refine wd_get hC i8 hW 0 wC_c0 rfl 2 (Nat.le_of_ble_eq_true rfl) f28 rfl rfl dX8_enters_53 ?_
      refine lv_dup hx hb dX8_enters_56 rfl ?_
      refine wd_get hC i4 hW 25 wC_c25 rfl 1 (Nat.le_of_ble_eq_true rfl) f87 rfl rfl dX8_enters_57 ?_
      refine lv_iconst (v := 1) hx hb dX8_enters_60 (by decide) ?_
      refine lv_iadd hx hb dX8_enters_61 ?_
      refine wd_put hC i4 tyX4_ok nmX4 hW 25 wC_c25 rfl 1 (Nat.le_of_ble_eq_true rfl) f87 rfl rfl rfl rfl (Nat.le_of_ble_eq_true rfl) wC_s25_1 dX8_enters_62 (fun H locs hW => ?_)
      obtain ⟨S7, e8, h⟩ := nm_of h
      replace hW := wq_S e8 hW
      refine lv_aload_n hx hb dX8_enters_65 rfl (lv_at hl 1 rfl) ?_
      refine wd_get hC i8 hW 0 wC_c0 rfl 2 (Nat.le_of_ble_eq_true rfl) f28 rfl rfl dX8_enters_66 ?_
      obtain ⟨r9, hr10, h⟩ := bd_of h
      refine wd_callV0 (As := []) hC hW 25 wC_c25 rfl (c_X4_openM l D cy ad X n S7 r9 hr10) (cwV 0 hts (gu_V w_8_21 w_8_18 w_8_19 w_8_20 w_1_23) rfl rfl rfl hdX4_open ⟨Nat.le_of_ble_eq_true rfl, Nat.le_of_ble_eq_true rfl⟩) rfl hl.1 rfl (Nat.le_of_ble_eq_true rfl) ⟨Nat.zero_le _, Nat.zero_le _⟩ dX8_enters_69 (fun H locs hW => ?_)
      refine lv_aload_n hx hb dX8_enters_72 rfl (lv_at hl 1 rfl) ?_
      refine wd_get hC i8 hW 0 wC_c0 rfl 2 (Nat.le_of_ble_eq_true rfl) f28 rfl rfl dX8_enters_73 ?_
      refine wd_get hC i4 hW 25 wC_c25 rfl 1 (Nat.le_of_ble_eq_true rfl) f87 rfl rfl dX8_enters_76 ?_
      refine lv_iconst (v := 1) hx hb dX8_enters_79 (by decide) ?_
      refine lv_isub hx hb dX8_enters_80 ?_
      obtain rfl := Option.some.inj h
      exact wd_iret hA hQ hC hr hk hW dX8_enters_81
    · replace h := ite_f h c6
      refine lv_bipush (v := (-2)) hx hb dX8_enters_49 (by decide) ?_
      obtain rfl := Option.some.inj h
      exact wd_iret hA hQ hC hr hk hW dX8_enters_51
  · replace h := ite_f h c5
    refine lv_bipush (v := (-21)) hx hb dX8_enters_32 (by decide) ?_
    refine lv_iload_n hx hb dX8_enters_34 rfl (lv_at hl 0 rfl) ?_
    refine lv_isub hx hb dX8_enters_35 ?_
    obtain rfl := Option.some.inj h
    exact wd_iret hA hQ hC hr hk hW dX8_enters_36
def m_X8_leaves (n : Nat) (S : St) : Option (Int32 × St) :=
  if (S.1 30) = 0 then (some ((-2), S)) else (nm (sI S 30 ((S.1 30) - 1)) (fun S2 => (m_X4_open 30 25 n S2).bind (fun r4 => some (r4.1 30, r4))))
set_option maxHeartbeats 4000000 in
set_option maxRecDepth 100000 in
theorem c_X8_leaves (l : Launch) (D : va_G) (cy : Nat → ClassId) (ad : Nat → Nat) (X : va_W) (n : Nat) (S : St) (r : (Int32 × St)) (h : m_X8_leaves n S = some r) : CT l yX8_leaves (wu yX8_leaves cX8_leaves 1 (some .int)) 3 D cy [.ref (ad 0)] (wC ad cy S ++ X) (some (.int r.1)) (wC ad cy r.2 ++ X) := by
  refine CT.mk (cc := cX8_leaves) (maxL := 1) (ret := (some .int)) (own := RX8) (by decide) rfl rfl (Nat.le_of_ble_eq_true rfl) ?_
  intro p e s m args below meth c ls A Q hA hQ hC hr hk hW hl
  have hx := hC.1
  have hb := hC.2.1
  have hown := hC.2.2.2.1
  have hts := hC.2.2.2.2
  have hl : lv_has ls 1 [(0, .ref (ad 0))] := hl
  have f28 := hts _ (wu_in w_2_0)
  have i8 := (fun w h => wu_in (inc_8 w h) : ∀ w ∈ u_ws RX8 TX8 12, w ∈ (wu yX8_leaves cX8_leaves 1 (some .int)))
  have f87 := hts _ (wu_in w_7_11)
  have i4 := (fun w h => wu_in (inc_4 w h) : ∀ w ∈ u_ws RX4 TX4 16, w ∈ (wu yX8_leaves cX8_leaves 1 (some .int)))
  unfold m_X8_leaves at h
  refine lv_aload_n hx hb dX8_leaves_0 rfl (lv_at hl 0 rfl) ?_
  refine wd_get hC i8 hW 0 wC_c0 rfl 2 (Nat.le_of_ble_eq_true rfl) f28 rfl rfl dX8_leaves_1 ?_
  refine wd_get hC i4 hW 25 wC_c25 rfl 1 (Nat.le_of_ble_eq_true rfl) f87 rfl rfl dX8_leaves_4 ?_
  refine lv_if_ne (tgt := 13) hx hb dX8_leaves_7 (by decide) (fun c1 => ?_) (fun c1 => ?_)
  · replace h := ite_f h c1
    refine lv_aload_n hx hb dX8_leaves_13 rfl (lv_at hl 0 rfl) ?_
    refine wd_get hC i8 hW 0 wC_c0 rfl 2 (Nat.le_of_ble_eq_true rfl) f28 rfl rfl dX8_leaves_14 ?_
    refine lv_dup hx hb dX8_leaves_17 rfl ?_
    refine wd_get hC i4 hW 25 wC_c25 rfl 1 (Nat.le_of_ble_eq_true rfl) f87 rfl rfl dX8_leaves_18 ?_
    refine lv_iconst (v := 1) hx hb dX8_leaves_21 (by decide) ?_
    refine lv_isub hx hb dX8_leaves_22 ?_
    refine wd_put hC i4 tyX4_ok nmX4 hW 25 wC_c25 rfl 1 (Nat.le_of_ble_eq_true rfl) f87 rfl rfl rfl rfl (Nat.le_of_ble_eq_true rfl) wC_s25_1 dX8_leaves_23 (fun H locs hW => ?_)
    obtain ⟨S2, e3, h⟩ := nm_of h
    replace hW := wq_S e3 hW
    refine lv_aload_n hx hb dX8_leaves_26 rfl (lv_at hl 0 rfl) ?_
    refine wd_get hC i8 hW 0 wC_c0 rfl 2 (Nat.le_of_ble_eq_true rfl) f28 rfl rfl dX8_leaves_27 ?_
    obtain ⟨r4, hr5, h⟩ := bd_of h
    refine wd_callV0 (As := []) hC hW 25 wC_c25 rfl (c_X4_openM l D cy ad X n S2 r4 hr5) (cwV 0 hts (gu_V w_8_21 w_8_18 w_8_19 w_8_20 w_1_23) rfl rfl rfl hdX4_open ⟨Nat.le_of_ble_eq_true rfl, Nat.le_of_ble_eq_true rfl⟩) rfl hl.1 rfl (Nat.le_of_ble_eq_true rfl) ⟨Nat.zero_le _, Nat.zero_le _⟩ dX8_leaves_30 (fun H locs hW => ?_)
    refine lv_aload_n hx hb dX8_leaves_33 rfl (lv_at hl 0 rfl) ?_
    refine wd_get hC i8 hW 0 wC_c0 rfl 2 (Nat.le_of_ble_eq_true rfl) f28 rfl rfl dX8_leaves_34 ?_
    refine wd_get hC i4 hW 25 wC_c25 rfl 1 (Nat.le_of_ble_eq_true rfl) f87 rfl rfl dX8_leaves_37 ?_
    obtain rfl := Option.some.inj h
    exact wd_iret hA hQ hC hr hk hW dX8_leaves_40
  · replace h := ite_t h c1
    refine lv_bipush (v := (-2)) hx hb dX8_leaves_10 (by decide) ?_
    obtain rfl := Option.some.inj h
    exact wd_iret hA hQ hC hr hk hW dX8_leaves_12
def m_X8_plans (n : Nat) (S : St) (p0 : Int32) (p1 : Int32) (p2 : Int32) (p3 : Int32) : Option (Int32 × St) :=
  (m_X8_isLifter S p0).bind (fun r1 => if r1 = 0 then (some ((-1), S)) else ((m_X8_isLift S p1).bind (fun r4 => if r4 = 0 then (some ((-1), S)) else ((m_X8_isPlan S p2 p3).bind (fun r7 => if r7 = 0 then (some ((-1), S)) else (ck p0 7 (ck ((p1 * 3) + p2) 9 (nm (S.2.1 (6 + 3 * p0.toNatClampNeg) ((p1 * 3) + p2).toNatClampNeg) (fun v12 => ck ((p1 * 3) + p2) 9 (nm (sA S (6 + 3 * p0.toNatClampNeg) ((p1 * 3) + p2).toNatClampNeg p3) (fun S15 => (m_X4_open 30 25 n S15).bind (fun r17 => some (v12, r17)))))))))))))
set_option maxHeartbeats 4000000 in
set_option maxRecDepth 100000 in
theorem c_X8_plans (l : Launch) (D : va_G) (cy : Nat → ClassId) (ad : Nat → Nat) (X : va_W) (n : Nat) (S : St) (p0 : Int32) (p1 : Int32) (p2 : Int32) (p3 : Int32) (r : (Int32 × St)) (h : m_X8_plans n S p0 p1 p2 p3 = some r) : CT l yX8_plans (wu yX8_plans cX8_plans 7 (some .int)) 3 D cy [.ref (ad 0), .int p0, .int p1, .int p2, .int p3] (wC ad cy S ++ X) (some (.int r.1)) (wC ad cy r.2 ++ X) := by
  refine CT.mk (cc := cX8_plans) (maxL := 7) (ret := (some .int)) (own := RX8) (by decide) rfl rfl (Nat.le_of_ble_eq_true rfl) ?_
  intro p e s m args below meth c ls A Q hA hQ hC hr hk hW hl
  have hx := hC.1
  have hb := hC.2.1
  have hown := hC.2.2.2.1
  have hts := hC.2.2.2.2
  have hl : lv_has ls 7 [(0, .ref (ad 0)), (1, .int p0), (2, .int p1), (3, .int p2), (4, .int p3)] := hl
  have f18 := hts _ (wu_in w_1_18)
  have i8 := (fun w h => wu_in (inc_8 w h) : ∀ w ∈ u_ws RX8 TX8 12, w ∈ (wu yX8_plans cX8_plans 7 (some .int)))
  have f107 := hts _ (wu_in w_13_5)
  have i3 := (fun w h => wu_in (inc_3 w h) : ∀ w ∈ u_ws RX3 TX3 4, w ∈ (wu yX8_plans cX8_plans 7 (some .int)))
  have f28 := hts _ (wu_in w_2_0)
  unfold m_X8_plans at h
  refine lv_aload_n hx hb dX8_plans_0 rfl (lv_at hl 0 rfl) ?_
  refine lv_iload_n hx hb dX8_plans_1 rfl (lv_at hl 1 rfl) ?_
  obtain ⟨r1, hr2, h⟩ := bd_of h
  refine wd_callV1 (As := [.int p0]) hC hW 0 wC_c0 rfl (c_X8_isLifter l D cy ad X S p0 r1 hr2) (cwV 1 hts (gu_V w_13_9 w_13_6 w_13_7 w_13_8 w_1_2) rfl rfl rfl hdX8_isLifter ⟨Nat.le_of_ble_eq_true rfl, Nat.le_of_ble_eq_true rfl⟩) rfl hl.1 rfl (Nat.le_of_ble_eq_true rfl) ⟨Nat.zero_le _, Nat.zero_le _⟩ dX8_plans_2 (fun H locs hW => ?_)
  refine lv_if_eq (tgt := 24) hx hb dX8_plans_5 (by decide) (fun c3 => ?_) (fun c3 => ?_)
  · replace h := ite_t h c3
    refine lv_iconst (v := (-1)) hx hb dX8_plans_24 (by decide) ?_
    obtain rfl := Option.some.inj h
    exact wd_iret hA hQ hC hr hk hW dX8_plans_25
  · replace h := ite_f h c3
    refine lv_iload_n hx hb dX8_plans_8 rfl (lv_at hl 2 rfl) ?_
    obtain ⟨r4, hr5, h⟩ := bd_of h
    refine wd_callS1 (As := [.int p1]) hC hW (c_X8_isLift l D cy ad X S p1 r4 hr5) (va_cwS 1 hts (gu_S w_13_12 w_13_10 w_13_11 w_1_2) rfl rfl rfl hdX8_isLift ⟨Nat.le_of_ble_eq_true rfl, Nat.le_of_ble_eq_true rfl⟩) rfl hl.1 rfl (Nat.le_of_ble_eq_true rfl) ⟨Nat.zero_le _, Nat.zero_le _⟩ dX8_plans_9 (fun H locs hW => ?_)
    refine lv_if_eq (tgt := 24) hx hb dX8_plans_12 (by decide) (fun c6 => ?_) (fun c6 => ?_)
    · replace h := ite_t h c6
      refine lv_iconst (v := (-1)) hx hb dX8_plans_24 (by decide) ?_
      obtain rfl := Option.some.inj h
      exact wd_iret hA hQ hC hr hk hW dX8_plans_25
    · replace h := ite_f h c6
      refine lv_iload_n hx hb dX8_plans_15 rfl (lv_at hl 3 rfl) ?_
      refine lv_iload hx hb dX8_plans_16 (lv_at hl 4 rfl) ?_
      obtain ⟨r7, hr8, h⟩ := bd_of h
      refine wd_callS1 (As := [.int p2, .int p3]) hC hW (c_X8_isPlan l D cy ad X S p2 p3 r7 hr8) (va_cwS 2 hts (gu_S w_13_15 w_13_13 w_13_14 w_1_2) rfl rfl rfl hdX8_isPlan ⟨Nat.le_of_ble_eq_true rfl, Nat.le_of_ble_eq_true rfl⟩) rfl hl.1 rfl (Nat.le_of_ble_eq_true rfl) ⟨Nat.zero_le _, Nat.zero_le _⟩ dX8_plans_18 (fun H locs hW => ?_)
      refine lv_if_ne (tgt := 26) hx hb dX8_plans_21 (by decide) (fun c9 => ?_) (fun c9 => ?_)
      · replace h := ite_f h c9
        refine lv_aload_n hx hb dX8_plans_26 rfl (lv_at hl 0 rfl) ?_
        refine wd_get hC i8 hW 0 wC_c0 rfl 1 (Nat.le_of_ble_eq_true rfl) f18 rfl rfl dX8_plans_27 ?_
        refine lv_iload_n hx hb dX8_plans_30 rfl (lv_at hl 1 rfl) ?_
        obtain ⟨hi10, h⟩ := ck_of h
        refine wd_aldq hC hW 3 wC_c3 hi10 rfl dX8_plans_31 ?_
        refine wd_get hC i3 hW (4 + 3 * p0.toNatClampNeg) (wC_L (in_lt hi10)) rfl 3 (Nat.le_of_ble_eq_true rfl) f107 rfl rfl dX8_plans_32 ?_
        refine lv_astore (lv' := [(5, .ref (ad (6 + 3 * p0.toNatClampNeg))), (0, .ref (ad 0)), (1, .int p0), (2, .int p1), (3, .int p2), (4, .int p3)]) hx hb dX8_plans_35 hl (by decide) rfl (fun ls hl => ?_)
        refine lv_aload hx hb dX8_plans_37 (lv_at hl 0 rfl) ?_
        refine lv_iload_n hx hb dX8_plans_39 rfl (lv_at hl 3 rfl) ?_
        refine lv_iconst (v := 3) hx hb dX8_plans_40 (by decide) ?_
        refine lv_imul hx hb dX8_plans_41 ?_
        refine lv_iload_n hx hb dX8_plans_42 rfl (lv_at hl 4 rfl) ?_
        refine lv_iadd hx hb dX8_plans_43 ?_
        obtain ⟨hi11, h⟩ := ck_of h
        refine wd_iald hC hW (6 + 3 * p0.toNatClampNeg) (wC_Lp (in_lt hi10)) hi11 dX8_plans_44 ?_
        refine lv_topi (fun v12 ev13 => ?_)
        replace h := nm_eq h ev13
        refine lv_istore (lv' := [(6, .int v12), (5, .ref (ad (6 + 3 * p0.toNatClampNeg))), (0, .ref (ad 0)), (1, .int p0), (2, .int p1), (3, .int p2), (4, .int p3)]) hx hb dX8_plans_45 hl (by decide) rfl (fun ls hl => ?_)
        refine lv_aload hx hb dX8_plans_47 (lv_at hl 1 rfl) ?_
        refine lv_iload_n hx hb dX8_plans_49 rfl (lv_at hl 4 rfl) ?_
        refine lv_iconst (v := 3) hx hb dX8_plans_50 (by decide) ?_
        refine lv_imul hx hb dX8_plans_51 ?_
        refine lv_iload_n hx hb dX8_plans_52 rfl (lv_at hl 5 rfl) ?_
        refine lv_iadd hx hb dX8_plans_53 ?_
        refine lv_iload hx hb dX8_plans_54 (lv_at hl 6 rfl) ?_
        obtain ⟨hi14, h⟩ := ck_of h
        refine wd_iast hC hW (6 + 3 * p0.toNatClampNeg) (wC_Lp (in_lt hi10)) hi14 (wC_Lp_t (in_lt hi10)) dX8_plans_56 (fun H locs hW => ?_)
        obtain ⟨S15, e16, h⟩ := nm_of h
        replace hW := wq_S e16 hW
        refine lv_aload_n hx hb dX8_plans_57 rfl (lv_at hl 2 rfl) ?_
        refine wd_get hC i8 hW 0 wC_c0 rfl 2 (Nat.le_of_ble_eq_true rfl) f28 rfl rfl dX8_plans_58 ?_
        obtain ⟨r17, hr18, h⟩ := bd_of h
        refine wd_callV0 (As := []) hC hW 25 wC_c25 rfl (c_X4_openM l D cy ad X n S15 r17 hr18) (cwV 0 hts (gu_V w_8_21 w_8_18 w_8_19 w_8_20 w_1_23) rfl rfl rfl hdX4_open ⟨Nat.le_of_ble_eq_true rfl, Nat.le_of_ble_eq_true rfl⟩) rfl hl.1 rfl (Nat.le_of_ble_eq_true rfl) ⟨Nat.zero_le _, Nat.zero_le _⟩ dX8_plans_61 (fun H locs hW => ?_)
        refine lv_iload hx hb dX8_plans_64 (lv_at hl 0 rfl) ?_
        obtain rfl := Option.some.inj h
        exact wd_iret hA hQ hC hr hk hW dX8_plans_66
      · replace h := ite_t h c9
        refine lv_iconst (v := (-1)) hx hb dX8_plans_24 (by decide) ?_
        obtain rfl := Option.some.inj h
        exact wd_iret hA hQ hC hr hk hW dX8_plans_25
def m_X8_tires (S : St) (p0 : Int32) : Option (Int32 × St) :=
  if p0 < 0 then (some ((-1), S)) else (if p0 ≤ 300 then (nm (sI S 31 p0) (fun S3 => some (S.1 31, S3))) else (some ((-1), S)))
set_option maxHeartbeats 4000000 in
set_option maxRecDepth 100000 in
theorem c_X8_tires (l : Launch) (D : va_G) (cy : Nat → ClassId) (ad : Nat → Nat) (X : va_W) (S : St) (p0 : Int32) (r : (Int32 × St)) (h : m_X8_tires S p0 = some r) : CT l yX8_tires (wu yX8_tires cX8_tires 3 (some .int)) 0 D cy [.ref (ad 0), .int p0] (wC ad cy S ++ X) (some (.int r.1)) (wC ad cy r.2 ++ X) := by
  refine CT.mk (cc := cX8_tires) (maxL := 3) (ret := (some .int)) (own := RX8) (by decide) rfl rfl (Nat.le_of_ble_eq_true rfl) ?_
  intro p e s m args below meth c ls A Q hA hQ hC hr hk hW hl
  have hx := hC.1
  have hb := hC.2.1
  have hown := hC.2.2.2.1
  have hts := hC.2.2.2.2
  have hl : lv_has ls 3 [(0, .ref (ad 0)), (1, .int p0)] := hl
  have f28 := hts _ (wu_in w_2_0)
  have i8 := (fun w h => wu_in (inc_8 w h) : ∀ w ∈ u_ws RX8 TX8 12, w ∈ (wu yX8_tires cX8_tires 3 (some .int)))
  have f111 := hts _ (wu_in w_14_13)
  have i4 := (fun w h => wu_in (inc_4 w h) : ∀ w ∈ u_ws RX4 TX4 16, w ∈ (wu yX8_tires cX8_tires 3 (some .int)))
  unfold m_X8_tires at h
  refine lv_iload_n hx hb dX8_tires_0 rfl (lv_at hl 1 rfl) ?_
  refine lv_if_lt (tgt := 11) hx hb dX8_tires_1 (by decide) (fun c1 => ?_) (fun c1 => ?_)
  · replace h := ite_t h c1
    refine lv_iconst (v := (-1)) hx hb dX8_tires_11 (by decide) ?_
    obtain rfl := Option.some.inj h
    exact wd_iret hA hQ hC hr hk hW dX8_tires_12
  · replace h := ite_f h c1
    refine lv_iload_n hx hb dX8_tires_4 rfl (lv_at hl 1 rfl) ?_
    refine lv_sipush (v := 300) hx hb dX8_tires_5 (by decide) ?_
    refine lv_icmp_le (tgt := 13) hx hb dX8_tires_8 (by decide) (fun c2 => ?_) (fun c2 => ?_)
    · replace h := ite_t h c2
      refine lv_aload_n hx hb dX8_tires_13 rfl (lv_at hl 0 rfl) ?_
      refine wd_get hC i8 hW 0 wC_c0 rfl 2 (Nat.le_of_ble_eq_true rfl) f28 rfl rfl dX8_tires_14 ?_
      refine wd_get hC i4 hW 25 wC_c25 rfl 2 (Nat.le_of_ble_eq_true rfl) f111 rfl rfl dX8_tires_17 ?_
      refine lv_istore_n (lv' := [(2, .int (S.1 31)), (0, .ref (ad 0)), (1, .int p0)]) hx hb dX8_tires_20 rfl hl (by decide) rfl (fun ls hl => ?_)
      refine lv_aload_n hx hb dX8_tires_21 rfl (lv_at hl 1 rfl) ?_
      refine wd_get hC i8 hW 0 wC_c0 rfl 2 (Nat.le_of_ble_eq_true rfl) f28 rfl rfl dX8_tires_22 ?_
      refine lv_iload_n hx hb dX8_tires_25 rfl (lv_at hl 2 rfl) ?_
      refine wd_put hC i4 tyX4_ok nmX4 hW 25 wC_c25 rfl 2 (Nat.le_of_ble_eq_true rfl) f111 rfl rfl rfl rfl (Nat.le_of_ble_eq_true rfl) wC_s25_2 dX8_tires_26 (fun H locs hW => ?_)
      obtain ⟨S3, e4, h⟩ := nm_of h
      replace hW := wq_S e4 hW
      refine lv_iload_n hx hb dX8_tires_29 rfl (lv_at hl 0 rfl) ?_
      obtain rfl := Option.some.inj h
      exact wd_iret hA hQ hC hr hk hW dX8_tires_30
    · replace h := ite_f h c2
      refine lv_iconst (v := (-1)) hx hb dX8_tires_11 (by decide) ?_
      obtain rfl := Option.some.inj h
      exact wd_iret hA hQ hC hr hk hW dX8_tires_12
def m_X8_begins (n : Nat) (S : St) : Option (Int32 × St) :=
  (m_X4_open 30 25 n S).bind (fun r1 => some (r1.1 30, r1))
set_option maxHeartbeats 4000000 in
set_option maxRecDepth 100000 in
theorem c_X8_begins (l : Launch) (D : va_G) (cy : Nat → ClassId) (ad : Nat → Nat) (X : va_W) (n : Nat) (S : St) (r : (Int32 × St)) (h : m_X8_begins n S = some r) : CT l yX8_begins (wu yX8_begins cX8_begins 1 (some .int)) 3 D cy [.ref (ad 0)] (wC ad cy S ++ X) (some (.int r.1)) (wC ad cy r.2 ++ X) := by
  refine CT.mk (cc := cX8_begins) (maxL := 1) (ret := (some .int)) (own := RX8) (by decide) rfl rfl (Nat.le_of_ble_eq_true rfl) ?_
  intro p e s m args below meth c ls A Q hA hQ hC hr hk hW hl
  have hx := hC.1
  have hb := hC.2.1
  have hown := hC.2.2.2.1
  have hts := hC.2.2.2.2
  have hl : lv_has ls 1 [(0, .ref (ad 0))] := hl
  have f28 := hts _ (wu_in w_2_0)
  have i8 := (fun w h => wu_in (inc_8 w h) : ∀ w ∈ u_ws RX8 TX8 12, w ∈ (wu yX8_begins cX8_begins 1 (some .int)))
  have f87 := hts _ (wu_in w_7_11)
  have i4 := (fun w h => wu_in (inc_4 w h) : ∀ w ∈ u_ws RX4 TX4 16, w ∈ (wu yX8_begins cX8_begins 1 (some .int)))
  unfold m_X8_begins at h
  refine lv_aload_n hx hb dX8_begins_0 rfl (lv_at hl 0 rfl) ?_
  refine wd_get hC i8 hW 0 wC_c0 rfl 2 (Nat.le_of_ble_eq_true rfl) f28 rfl rfl dX8_begins_1 ?_
  obtain ⟨r1, hr2, h⟩ := bd_of h
  refine wd_callV0 (As := []) hC hW 25 wC_c25 rfl (c_X4_openM l D cy ad X n S r1 hr2) (cwV 0 hts (gu_V w_8_21 w_8_18 w_8_19 w_8_20 w_1_23) rfl rfl rfl hdX4_open ⟨Nat.le_of_ble_eq_true rfl, Nat.le_of_ble_eq_true rfl⟩) rfl hl.1 rfl (Nat.le_of_ble_eq_true rfl) ⟨Nat.zero_le _, Nat.zero_le _⟩ dX8_begins_4 (fun H locs hW => ?_)
  refine lv_aload_n hx hb dX8_begins_7 rfl (lv_at hl 0 rfl) ?_
  refine wd_get hC i8 hW 0 wC_c0 rfl 2 (Nat.le_of_ble_eq_true rfl) f28 rfl rfl dX8_begins_8 ?_
  refine wd_get hC i4 hW 25 wC_c25 rfl 1 (Nat.le_of_ble_eq_true rfl) f87 rfl rfl dX8_begins_11 ?_
  obtain rfl := Option.some.inj h
  exact wd_iret hA hQ hC hr hk hW dX8_begins_14
def m_X8_odds (S : St) (p0 : Int32) (p1 : Int32) (p2 : Int32) (p3 : Int32) : Option (Int32) :=
  (m_X8_isLifter S p0).bind (fun r1 => if r1 = 0 then (some (-1)) else ((m_X8_isLift S p1).bind (fun r4 => if r4 = 0 then (some (-1)) else ((m_X8_isLoad S p2).bind (fun r7 => if r7 = 0 then (some (-1)) else (if p3 < 0 then (some (-1)) else (if p3 ≤ 2 then (ck p0 7 ((m_X3_oddsOf S p0.toNatClampNeg p1 p2 (p3 * (S.1 31))).bind (fun r13 => some r13))) else (some (-1)))))))))
set_option maxHeartbeats 4000000 in
set_option maxRecDepth 100000 in
theorem c_X8_odds (l : Launch) (D : va_G) (cy : Nat → ClassId) (ad : Nat → Nat) (X : va_W) (S : St) (p0 : Int32) (p1 : Int32) (p2 : Int32) (p3 : Int32) (r : (Int32)) (h : m_X8_odds S p0 p1 p2 p3 = some r) : CT l yX8_odds (wu yX8_odds cX8_odds 5 (some .int)) 2 D cy [.ref (ad 0), .int p0, .int p1, .int p2, .int p3] (wC ad cy S ++ X) (some (.int r)) (wC ad cy S ++ X) := by
  refine CT.mk (cc := cX8_odds) (maxL := 5) (ret := (some .int)) (own := RX8) (by decide) rfl rfl (Nat.le_of_ble_eq_true rfl) ?_
  intro p e s m args below meth c ls A Q hA hQ hC hr hk hW hl
  have hx := hC.1
  have hb := hC.2.1
  have hown := hC.2.2.2.1
  have hts := hC.2.2.2.2
  have hl : lv_has ls 5 [(0, .ref (ad 0)), (1, .int p0), (2, .int p1), (3, .int p2), (4, .int p3)] := hl
  have f18 := hts _ (wu_in w_1_18)
  have i8 := (fun w h => wu_in (inc_8 w h) : ∀ w ∈ u_ws RX8 TX8 12, w ∈ (wu yX8_odds cX8_odds 5 (some .int)))
  have f28 := hts _ (wu_in w_2_0)
  have f111 := hts _ (wu_in w_14_13)
  have i4 := (fun w h => wu_in (inc_4 w h) : ∀ w ∈ u_ws RX4 TX4 16, w ∈ (wu yX8_odds cX8_odds 5 (some .int)))
  unfold m_X8_odds at h
  refine lv_aload_n hx hb dX8_odds_0 rfl (lv_at hl 0 rfl) ?_
  refine lv_iload_n hx hb dX8_odds_1 rfl (lv_at hl 1 rfl) ?_
  obtain ⟨r1, hr2, h⟩ := bd_of h
  refine wd_callV1 (As := [.int p0]) hC hW 0 wC_c0 rfl (c_X8_isLifter l D cy ad X S p0 r1 hr2) (cwV 1 hts (gu_V w_13_9 w_13_6 w_13_7 w_13_8 w_1_2) rfl rfl rfl hdX8_isLifter ⟨Nat.le_of_ble_eq_true rfl, Nat.le_of_ble_eq_true rfl⟩) rfl hl.1 rfl (Nat.le_of_ble_eq_true rfl) ⟨Nat.zero_le _, Nat.zero_le _⟩ dX8_odds_2 (fun H locs hW => ?_)
  refine lv_if_eq (tgt := 33) hx hb dX8_odds_5 (by decide) (fun c3 => ?_) (fun c3 => ?_)
  · replace h := ite_t h c3
    refine lv_iconst (v := (-1)) hx hb dX8_odds_33 (by decide) ?_
    obtain rfl := Option.some.inj h
    exact wd_iret hA hQ hC hr hk hW dX8_odds_34
  · replace h := ite_f h c3
    refine lv_iload_n hx hb dX8_odds_8 rfl (lv_at hl 2 rfl) ?_
    obtain ⟨r4, hr5, h⟩ := bd_of h
    refine wd_callS1 (As := [.int p1]) hC hW (c_X8_isLift l D cy ad X S p1 r4 hr5) (va_cwS 1 hts (gu_S w_13_12 w_13_10 w_13_11 w_1_2) rfl rfl rfl hdX8_isLift ⟨Nat.le_of_ble_eq_true rfl, Nat.le_of_ble_eq_true rfl⟩) rfl hl.1 rfl (Nat.le_of_ble_eq_true rfl) ⟨Nat.zero_le _, Nat.zero_le _⟩ dX8_odds_9 (fun H locs hW => ?_)
    refine lv_if_eq (tgt := 33) hx hb dX8_odds_12 (by decide) (fun c6 => ?_) (fun c6 => ?_)
    · replace h := ite_t h c6
      refine lv_iconst (v := (-1)) hx hb dX8_odds_33 (by decide) ?_
      obtain rfl := Option.some.inj h
      exact wd_iret hA hQ hC hr hk hW dX8_odds_34
    · replace h := ite_f h c6
      refine lv_iload_n hx hb dX8_odds_15 rfl (lv_at hl 3 rfl) ?_
      obtain ⟨r7, hr8, h⟩ := bd_of h
      refine wd_callS1 (As := [.int p2]) hC hW (c_X8_isLoad l D cy ad X S p2 r7 hr8) (va_cwS 1 hts (gu_S w_13_18 w_13_16 w_13_17 w_1_2) rfl rfl rfl hdX8_isLoad ⟨Nat.le_of_ble_eq_true rfl, Nat.le_of_ble_eq_true rfl⟩) rfl hl.1 rfl (Nat.le_of_ble_eq_true rfl) ⟨Nat.zero_le _, Nat.zero_le _⟩ dX8_odds_16 (fun H locs hW => ?_)
      refine lv_if_eq (tgt := 33) hx hb dX8_odds_19 (by decide) (fun c9 => ?_) (fun c9 => ?_)
      · replace h := ite_t h c9
        refine lv_iconst (v := (-1)) hx hb dX8_odds_33 (by decide) ?_
        obtain rfl := Option.some.inj h
        exact wd_iret hA hQ hC hr hk hW dX8_odds_34
      · replace h := ite_f h c9
        refine lv_iload hx hb dX8_odds_22 (lv_at hl 4 rfl) ?_
        refine lv_if_lt (tgt := 33) hx hb dX8_odds_24 (by decide) (fun c10 => ?_) (fun c10 => ?_)
        · replace h := ite_t h c10
          refine lv_iconst (v := (-1)) hx hb dX8_odds_33 (by decide) ?_
          obtain rfl := Option.some.inj h
          exact wd_iret hA hQ hC hr hk hW dX8_odds_34
        · replace h := ite_f h c10
          refine lv_iload hx hb dX8_odds_27 (lv_at hl 4 rfl) ?_
          refine lv_iconst (v := 2) hx hb dX8_odds_29 (by decide) ?_
          refine lv_icmp_le (tgt := 35) hx hb dX8_odds_30 (by decide) (fun c11 => ?_) (fun c11 => ?_)
          · replace h := ite_t h c11
            refine lv_aload_n hx hb dX8_odds_35 rfl (lv_at hl 0 rfl) ?_
            refine wd_get hC i8 hW 0 wC_c0 rfl 1 (Nat.le_of_ble_eq_true rfl) f18 rfl rfl dX8_odds_36 ?_
            refine lv_iload_n hx hb dX8_odds_39 rfl (lv_at hl 1 rfl) ?_
            obtain ⟨hi12, h⟩ := ck_of h
            refine wd_aldq hC hW 3 wC_c3 hi12 rfl dX8_odds_40 ?_
            refine lv_iload_n hx hb dX8_odds_41 rfl (lv_at hl 2 rfl) ?_
            refine lv_iload_n hx hb dX8_odds_42 rfl (lv_at hl 3 rfl) ?_
            refine lv_iload hx hb dX8_odds_43 (lv_at hl 4 rfl) ?_
            refine lv_aload_n hx hb dX8_odds_45 rfl (lv_at hl 0 rfl) ?_
            refine wd_get hC i8 hW 0 wC_c0 rfl 2 (Nat.le_of_ble_eq_true rfl) f28 rfl rfl dX8_odds_46 ?_
            refine wd_get hC i4 hW 25 wC_c25 rfl 2 (Nat.le_of_ble_eq_true rfl) f111 rfl rfl dX8_odds_49 ?_
            refine lv_imul hx hb dX8_odds_52 ?_
            obtain ⟨r13, hr14, h⟩ := bd_of h
            refine wd_callV1 (As := [.int p1, .int p2, .int (p3 * (S.1 31))]) hC hW (4 + 3 * p0.toNatClampNeg) (wC_L (in_lt hi12)) rfl (c_X3_oddsOf l D cy ad X S p0.toNatClampNeg p1 p2 (p3 * (S.1 31)) r13 hr14 (in_lt hi12)) (cwV 3 hts (gu_V w_15_11 w_15_8 w_15_9 w_15_10 w_1_20) rfl rfl rfl hdX3_oddsOf ⟨Nat.le_of_ble_eq_true rfl, Nat.le_of_ble_eq_true rfl⟩) rfl hl.1 rfl (Nat.le_of_ble_eq_true rfl) ⟨Nat.zero_le _, Nat.zero_le _⟩ dX8_odds_53 (fun H locs hW => ?_)
            obtain rfl := Option.some.inj h
            exact wd_iret hA hQ hC hr hk hW dX8_odds_56
          · replace h := ite_f h c11
            refine lv_iconst (v := (-1)) hx hb dX8_odds_33 (by decide) ?_
            obtain rfl := Option.some.inj h
            exact wd_iret hA hQ hC hr hk hW dX8_odds_34
def m_X8_lifter (S : St) (p0 : Int32) (p1 : Int32) (p2 : Int32) : Option (Int32) :=
  (m_X8_isLifter S p0).bind (fun r1 => if r1 = 0 then (some (-1)) else ((m_X8_isLift S p1).bind (fun r4 => if r4 = 0 then (some (-1)) else (ck p0 7 (if p2 = 0 then (some (S.1 (10 + 2 * p0.toNatClampNeg))) else (if p2 = 1 then (some (S.1 (11 + 2 * p0.toNatClampNeg))) else (if p2 = 2 then (ck (p1 * 3) 9 (some (S.2.1 (6 + 3 * p0.toNatClampNeg) (p1 * 3).toNatClampNeg))) else (if p2 = 3 then (ck ((p1 * 3) + 1) 9 (some (S.2.1 (6 + 3 * p0.toNatClampNeg) ((p1 * 3) + 1).toNatClampNeg))) else (if p2 = 4 then (ck ((p1 * 3) + 2) 9 (some (S.2.1 (6 + 3 * p0.toNatClampNeg) ((p1 * 3) + 2).toNatClampNeg))) else (if p2 = 5 then (ck ((p0 * 3) + p1) 18 (some (S.2.1 30 ((p0 * 3) + p1).toNatClampNeg))) else (if p2 = 6 then (ck p0 6 (some (S.2.1 26 p0.toNatClampNeg))) else (if p2 = 7 then ((m_X4_leastOf 30 25 S p0).bind (fun r21 => some r21)) else (if p2 = 8 then (ck p0 6 (some (S.2.1 28 p0.toNatClampNeg))) else (if p2 = 9 then ((m_X4_waits 30 25 S p0).bind (fun r26 => if r26 = 0 then (some 0) else (some 1))) else (if p2 = 10 then (ck p0 6 (if (S.2.1 29 p0.toNatClampNeg) = 0 then (some 0) else (some 1))) else (if p2 = 11 then ((m_X4_sumOf 30 25 S p0).bind (fun r33 => some r33)) else (some (-1))))))))))))))))))
set_option maxHeartbeats 4000000 in
set_option maxRecDepth 100000 in
theorem c_X8_lifter (l : Launch) (D : va_G) (cy : Nat → ClassId) (ad : Nat → Nat) (X : va_W) (S : St) (p0 : Int32) (p1 : Int32) (p2 : Int32) (r : (Int32)) (h : m_X8_lifter S p0 p1 p2 = some r) : CT l yX8_lifter (wu yX8_lifter cX8_lifter 5 (some .int)) 2 D cy [.ref (ad 0), .int p0, .int p1, .int p2] (wC ad cy S ++ X) (some (.int r)) (wC ad cy S ++ X) := by
  refine CT.mk (cc := cX8_lifter) (maxL := 5) (ret := (some .int)) (own := RX8) (by decide) rfl rfl (Nat.le_of_ble_eq_true rfl) ?_
  intro p e s m args below meth c ls A Q hA hQ hC hr hk hW hl
  have hx := hC.1
  have hb := hC.2.1
  have hown := hC.2.2.2.1
  have hts := hC.2.2.2.2
  have hl : lv_has ls 5 [(0, .ref (ad 0)), (1, .int p0), (2, .int p1), (3, .int p2)] := hl
  have f18 := hts _ (wu_in w_1_18)
  have i8 := (fun w h => wu_in (inc_8 w h) : ∀ w ∈ u_ws RX8 TX8 12, w ∈ (wu yX8_lifter cX8_lifter 5 (some .int)))
  have f121 := hts _ (wu_in w_16_9)
  have i3 := (fun w h => wu_in (inc_3 w h) : ∀ w ∈ u_ws RX3 TX3 4, w ∈ (wu yX8_lifter cX8_lifter 5 (some .int)))
  have f124 := hts _ (wu_in w_16_10)
  have f107 := hts _ (wu_in w_13_5)
  have f28 := hts _ (wu_in w_2_0)
  have f127 := hts _ (wu_in w_16_11)
  have i4 := (fun w h => wu_in (inc_4 w h) : ∀ w ∈ u_ws RX4 TX4 16, w ∈ (wu yX8_lifter cX8_lifter 5 (some .int)))
  have f130 := hts _ (wu_in w_16_12)
  have f137 := hts _ (wu_in w_16_13)
  have f143 := hts _ (wu_in w_16_14)
  unfold m_X8_lifter at h
  refine lv_aload_n hx hb dX8_lifter_0 rfl (lv_at hl 0 rfl) ?_
  refine lv_iload_n hx hb dX8_lifter_1 rfl (lv_at hl 1 rfl) ?_
  obtain ⟨r1, hr2, h⟩ := bd_of h
  refine wd_callV1 (As := [.int p0]) hC hW 0 wC_c0 rfl (c_X8_isLifter l D cy ad X S p0 r1 hr2) (cwV 1 hts (gu_V w_13_9 w_13_6 w_13_7 w_13_8 w_1_2) rfl rfl rfl hdX8_isLifter ⟨Nat.le_of_ble_eq_true rfl, Nat.le_of_ble_eq_true rfl⟩) rfl hl.1 rfl (Nat.le_of_ble_eq_true rfl) ⟨Nat.zero_le _, Nat.zero_le _⟩ dX8_lifter_2 (fun H locs hW => ?_)
  refine lv_if_eq (tgt := 15) hx hb dX8_lifter_5 (by decide) (fun c3 => ?_) (fun c3 => ?_)
  · replace h := ite_t h c3
    refine lv_iconst (v := (-1)) hx hb dX8_lifter_15 (by decide) ?_
    obtain rfl := Option.some.inj h
    exact wd_iret hA hQ hC hr hk hW dX8_lifter_16
  · replace h := ite_f h c3
    refine lv_iload_n hx hb dX8_lifter_8 rfl (lv_at hl 2 rfl) ?_
    obtain ⟨r4, hr5, h⟩ := bd_of h
    refine wd_callS1 (As := [.int p1]) hC hW (c_X8_isLift l D cy ad X S p1 r4 hr5) (va_cwS 1 hts (gu_S w_13_12 w_13_10 w_13_11 w_1_2) rfl rfl rfl hdX8_isLift ⟨Nat.le_of_ble_eq_true rfl, Nat.le_of_ble_eq_true rfl⟩) rfl hl.1 rfl (Nat.le_of_ble_eq_true rfl) ⟨Nat.zero_le _, Nat.zero_le _⟩ dX8_lifter_9 (fun H locs hW => ?_)
    refine lv_if_ne (tgt := 17) hx hb dX8_lifter_12 (by decide) (fun c6 => ?_) (fun c6 => ?_)
    · replace h := ite_f h c6
      refine lv_aload_n hx hb dX8_lifter_17 rfl (lv_at hl 0 rfl) ?_
      refine wd_get hC i8 hW 0 wC_c0 rfl 1 (Nat.le_of_ble_eq_true rfl) f18 rfl rfl dX8_lifter_18 ?_
      refine lv_iload_n hx hb dX8_lifter_21 rfl (lv_at hl 1 rfl) ?_
      obtain ⟨hi7, h⟩ := ck_of h
      refine wd_aldq hC hW 3 wC_c3 hi7 rfl dX8_lifter_22 ?_
      refine lv_astore (lv' := [(4, .ref (ad (4 + 3 * p0.toNatClampNeg))), (0, .ref (ad 0)), (1, .int p0), (2, .int p1), (3, .int p2)]) hx hb dX8_lifter_23 hl (by decide) rfl (fun ls hl => ?_)
      refine lv_iload_n hx hb dX8_lifter_25 rfl (lv_at hl 4 rfl) ?_
      by_cases c8 : p2 = 0
      · replace h := ite_t h c8
        refine lv_tableIn (tgt := 88) hx hb dX8_lifter_26 (by rw [c8]; decide) (by rw [c8]; decide) (by rw [c8]; rfl) (by decide) ?_
        refine lv_aload hx hb dX8_lifter_88 (lv_at hl 0 rfl) ?_
        refine wd_get hC i3 hW (4 + 3 * p0.toNatClampNeg) (wC_L (in_lt hi7)) rfl 0 (Nat.le_of_ble_eq_true rfl) f121 rfl rfl dX8_lifter_90 ?_
        obtain rfl := Option.some.inj h
        exact wd_iret hA hQ hC hr hk hW dX8_lifter_93
      replace h := ite_f h c8
      by_cases c9 : p2 = 1
      · replace h := ite_t h c9
        refine lv_tableIn (tgt := 94) hx hb dX8_lifter_26 (by rw [c9]; decide) (by rw [c9]; decide) (by rw [c9]; rfl) (by decide) ?_
        refine lv_aload hx hb dX8_lifter_94 (lv_at hl 0 rfl) ?_
        refine wd_get hC i3 hW (4 + 3 * p0.toNatClampNeg) (wC_L (in_lt hi7)) rfl 1 (Nat.le_of_ble_eq_true rfl) f124 rfl rfl dX8_lifter_96 ?_
        obtain rfl := Option.some.inj h
        exact wd_iret hA hQ hC hr hk hW dX8_lifter_99
      replace h := ite_f h c9
      by_cases c10 : p2 = 2
      · replace h := ite_t h c10
        refine lv_tableIn (tgt := 100) hx hb dX8_lifter_26 (by rw [c10]; decide) (by rw [c10]; decide) (by rw [c10]; rfl) (by decide) ?_
        refine lv_aload hx hb dX8_lifter_100 (lv_at hl 0 rfl) ?_
        refine wd_get hC i3 hW (4 + 3 * p0.toNatClampNeg) (wC_L (in_lt hi7)) rfl 3 (Nat.le_of_ble_eq_true rfl) f107 rfl rfl dX8_lifter_102 ?_
        refine lv_iload_n hx hb dX8_lifter_105 rfl (lv_at hl 3 rfl) ?_
        refine lv_iconst (v := 3) hx hb dX8_lifter_106 (by decide) ?_
        refine lv_imul hx hb dX8_lifter_107 ?_
        obtain ⟨hi11, h⟩ := ck_of h
        refine wd_iald hC hW (6 + 3 * p0.toNatClampNeg) (wC_Lp (in_lt hi7)) hi11 dX8_lifter_108 ?_
        obtain rfl := Option.some.inj h
        exact wd_iret hA hQ hC hr hk hW dX8_lifter_109
      replace h := ite_f h c10
      by_cases c12 : p2 = 3
      · replace h := ite_t h c12
        refine lv_tableIn (tgt := 110) hx hb dX8_lifter_26 (by rw [c12]; decide) (by rw [c12]; decide) (by rw [c12]; rfl) (by decide) ?_
        refine lv_aload hx hb dX8_lifter_110 (lv_at hl 0 rfl) ?_
        refine wd_get hC i3 hW (4 + 3 * p0.toNatClampNeg) (wC_L (in_lt hi7)) rfl 3 (Nat.le_of_ble_eq_true rfl) f107 rfl rfl dX8_lifter_112 ?_
        refine lv_iload_n hx hb dX8_lifter_115 rfl (lv_at hl 3 rfl) ?_
        refine lv_iconst (v := 3) hx hb dX8_lifter_116 (by decide) ?_
        refine lv_imul hx hb dX8_lifter_117 ?_
        refine lv_iconst (v := 1) hx hb dX8_lifter_118 (by decide) ?_
        refine lv_iadd hx hb dX8_lifter_119 ?_
        obtain ⟨hi13, h⟩ := ck_of h
        refine wd_iald hC hW (6 + 3 * p0.toNatClampNeg) (wC_Lp (in_lt hi7)) hi13 dX8_lifter_120 ?_
        obtain rfl := Option.some.inj h
        exact wd_iret hA hQ hC hr hk hW dX8_lifter_121
      replace h := ite_f h c12
      by_cases c14 : p2 = 4
      · replace h := ite_t h c14
        refine lv_tableIn (tgt := 122) hx hb dX8_lifter_26 (by rw [c14]; decide) (by rw [c14]; decide) (by rw [c14]; rfl) (by decide) ?_
        refine lv_aload hx hb dX8_lifter_122 (lv_at hl 0 rfl) ?_
        refine wd_get hC i3 hW (4 + 3 * p0.toNatClampNeg) (wC_L (in_lt hi7)) rfl 3 (Nat.le_of_ble_eq_true rfl) f107 rfl rfl dX8_lifter_124 ?_
        refine lv_iload_n hx hb dX8_lifter_127 rfl (lv_at hl 3 rfl) ?_
        refine lv_iconst (v := 3) hx hb dX8_lifter_128 (by decide) ?_
        refine lv_imul hx hb dX8_lifter_129 ?_
        refine lv_iconst (v := 2) hx hb dX8_lifter_130 (by decide) ?_
        refine lv_iadd hx hb dX8_lifter_131 ?_
        obtain ⟨hi15, h⟩ := ck_of h
        refine wd_iald hC hW (6 + 3 * p0.toNatClampNeg) (wC_Lp (in_lt hi7)) hi15 dX8_lifter_132 ?_
        obtain rfl := Option.some.inj h
        exact wd_iret hA hQ hC hr hk hW dX8_lifter_133
      replace h := ite_f h c14
      by_cases c16 : p2 = 5
      · replace h := ite_t h c16
        refine lv_tableIn (tgt := 134) hx hb dX8_lifter_26 (by rw [c16]; decide) (by rw [c16]; decide) (by rw [c16]; rfl) (by decide) ?_
        refine lv_aload_n hx hb dX8_lifter_134 rfl (lv_at hl 1 rfl) ?_
        refine wd_get hC i8 hW 0 wC_c0 rfl 2 (Nat.le_of_ble_eq_true rfl) f28 rfl rfl dX8_lifter_135 ?_
        refine wd_get hC i4 hW 25 wC_c25 rfl 10 (Nat.le_of_ble_eq_true rfl) f127 rfl rfl dX8_lifter_138 ?_
        refine lv_iload_n hx hb dX8_lifter_141 rfl (lv_at hl 2 rfl) ?_
        refine lv_iconst (v := 3) hx hb dX8_lifter_142 (by decide) ?_
        refine lv_imul hx hb dX8_lifter_143 ?_
        refine lv_iload_n hx hb dX8_lifter_144 rfl (lv_at hl 3 rfl) ?_
        refine lv_iadd hx hb dX8_lifter_145 ?_
        obtain ⟨hi17, h⟩ := ck_of h
        refine wd_iald hC hW 30 wC_c30 hi17 dX8_lifter_146 ?_
        obtain rfl := Option.some.inj h
        exact wd_iret hA hQ hC hr hk hW dX8_lifter_147
      replace h := ite_f h c16
      by_cases c18 : p2 = 6
      · replace h := ite_t h c18
        refine lv_tableIn (tgt := 148) hx hb dX8_lifter_26 (by rw [c18]; decide) (by rw [c18]; decide) (by rw [c18]; rfl) (by decide) ?_
        refine lv_aload_n hx hb dX8_lifter_148 rfl (lv_at hl 1 rfl) ?_
        refine wd_get hC i8 hW 0 wC_c0 rfl 2 (Nat.le_of_ble_eq_true rfl) f28 rfl rfl dX8_lifter_149 ?_
        refine wd_get hC i4 hW 25 wC_c25 rfl 6 (Nat.le_of_ble_eq_true rfl) f130 rfl rfl dX8_lifter_152 ?_
        refine lv_iload_n hx hb dX8_lifter_155 rfl (lv_at hl 2 rfl) ?_
        obtain ⟨hi19, h⟩ := ck_of h
        refine wd_iald hC hW 26 wC_c26 hi19 dX8_lifter_156 ?_
        obtain rfl := Option.some.inj h
        exact wd_iret hA hQ hC hr hk hW dX8_lifter_157
      replace h := ite_f h c18
      by_cases c20 : p2 = 7
      · replace h := ite_t h c20
        refine lv_tableIn (tgt := 158) hx hb dX8_lifter_26 (by rw [c20]; decide) (by rw [c20]; decide) (by rw [c20]; rfl) (by decide) ?_
        refine lv_aload_n hx hb dX8_lifter_158 rfl (lv_at hl 1 rfl) ?_
        refine wd_get hC i8 hW 0 wC_c0 rfl 2 (Nat.le_of_ble_eq_true rfl) f28 rfl rfl dX8_lifter_159 ?_
        refine lv_iload_n hx hb dX8_lifter_162 rfl (lv_at hl 2 rfl) ?_
        obtain ⟨r21, hr22, h⟩ := bd_of h
        refine wd_callV1 (As := [.int p0]) hC hW 25 wC_c25 rfl (c_X4_leastOfM l D cy ad X S p0 r21 hr22) (cwV 1 hts (gu_V w_16_18 w_16_15 w_16_16 w_16_17 w_1_23) rfl rfl rfl hdX4_leastOf ⟨Nat.le_of_ble_eq_true rfl, Nat.le_of_ble_eq_true rfl⟩) rfl hl.1 rfl (Nat.le_of_ble_eq_true rfl) ⟨Nat.zero_le _, Nat.zero_le _⟩ dX8_lifter_163 (fun H locs hW => ?_)
        obtain rfl := Option.some.inj h
        exact wd_iret hA hQ hC hr hk hW dX8_lifter_166
      replace h := ite_f h c20
      by_cases c23 : p2 = 8
      · replace h := ite_t h c23
        refine lv_tableIn (tgt := 167) hx hb dX8_lifter_26 (by rw [c23]; decide) (by rw [c23]; decide) (by rw [c23]; rfl) (by decide) ?_
        refine lv_aload_n hx hb dX8_lifter_167 rfl (lv_at hl 1 rfl) ?_
        refine wd_get hC i8 hW 0 wC_c0 rfl 2 (Nat.le_of_ble_eq_true rfl) f28 rfl rfl dX8_lifter_168 ?_
        refine wd_get hC i4 hW 25 wC_c25 rfl 8 (Nat.le_of_ble_eq_true rfl) f137 rfl rfl dX8_lifter_171 ?_
        refine lv_iload_n hx hb dX8_lifter_174 rfl (lv_at hl 2 rfl) ?_
        obtain ⟨hi24, h⟩ := ck_of h
        refine wd_iald hC hW 28 wC_c28 hi24 dX8_lifter_175 ?_
        obtain rfl := Option.some.inj h
        exact wd_iret hA hQ hC hr hk hW dX8_lifter_176
      replace h := ite_f h c23
      by_cases c25 : p2 = 9
      · replace h := ite_t h c25
        refine lv_tableIn (tgt := 177) hx hb dX8_lifter_26 (by rw [c25]; decide) (by rw [c25]; decide) (by rw [c25]; rfl) (by decide) ?_
        refine lv_aload_n hx hb dX8_lifter_177 rfl (lv_at hl 1 rfl) ?_
        refine wd_get hC i8 hW 0 wC_c0 rfl 2 (Nat.le_of_ble_eq_true rfl) f28 rfl rfl dX8_lifter_178 ?_
        refine lv_iload_n hx hb dX8_lifter_181 rfl (lv_at hl 2 rfl) ?_
        obtain ⟨r26, hr27, h⟩ := bd_of h
        refine wd_callV1 (As := [.int p0]) hC hW 25 wC_c25 rfl (c_X4_waitsM l D cy ad X S p0 r26 hr27) (cwV 1 hts (gu_V w_16_23 w_16_20 w_16_21 w_16_22 w_1_23) rfl rfl rfl hdX4_waits ⟨Nat.le_of_ble_eq_true rfl, Nat.le_of_ble_eq_true rfl⟩) rfl hl.1 rfl (Nat.le_of_ble_eq_true rfl) ⟨Nat.zero_le _, Nat.zero_le _⟩ dX8_lifter_182 (fun H locs hW => ?_)
        refine lv_if_eq (tgt := 192) hx hb dX8_lifter_185 (by decide) (fun c28 => ?_) (fun c28 => ?_)
        · replace h := ite_t h c28
          refine lv_iconst (v := 0) hx hb dX8_lifter_192 (by decide) ?_
          obtain rfl := Option.some.inj h
          exact wd_iret hA hQ hC hr hk hW dX8_lifter_193
        · replace h := ite_f h c28
          refine lv_iconst (v := 1) hx hb dX8_lifter_188 (by decide) ?_
          refine lv_goto (tgt := 193) hx hb dX8_lifter_189 (by decide) ?_
          obtain rfl := Option.some.inj h
          exact wd_iret hA hQ hC hr hk hW dX8_lifter_193
      replace h := ite_f h c25
      by_cases c29 : p2 = 10
      · replace h := ite_t h c29
        refine lv_tableIn (tgt := 194) hx hb dX8_lifter_26 (by rw [c29]; decide) (by rw [c29]; decide) (by rw [c29]; rfl) (by decide) ?_
        refine lv_aload_n hx hb dX8_lifter_194 rfl (lv_at hl 1 rfl) ?_
        refine wd_get hC i8 hW 0 wC_c0 rfl 2 (Nat.le_of_ble_eq_true rfl) f28 rfl rfl dX8_lifter_195 ?_
        refine wd_get hC i4 hW 25 wC_c25 rfl 9 (Nat.le_of_ble_eq_true rfl) f143 rfl rfl dX8_lifter_198 ?_
        refine lv_iload_n hx hb dX8_lifter_201 rfl (lv_at hl 2 rfl) ?_
        obtain ⟨hi30, h⟩ := ck_of h
        refine wd_zald hC hW 29 wC_c29 hi30 dX8_lifter_202 ?_
        refine lv_if_eq (tgt := 210) hx hb dX8_lifter_203 (by decide) (fun c31 => ?_) (fun c31 => ?_)
        · replace h := ite_t h c31
          refine lv_iconst (v := 0) hx hb dX8_lifter_210 (by decide) ?_
          obtain rfl := Option.some.inj h
          exact wd_iret hA hQ hC hr hk hW dX8_lifter_211
        · replace h := ite_f h c31
          refine lv_iconst (v := 1) hx hb dX8_lifter_206 (by decide) ?_
          refine lv_goto (tgt := 211) hx hb dX8_lifter_207 (by decide) ?_
          obtain rfl := Option.some.inj h
          exact wd_iret hA hQ hC hr hk hW dX8_lifter_211
      replace h := ite_f h c29
      by_cases c32 : p2 = 11
      · replace h := ite_t h c32
        refine lv_tableIn (tgt := 212) hx hb dX8_lifter_26 (by rw [c32]; decide) (by rw [c32]; decide) (by rw [c32]; rfl) (by decide) ?_
        refine lv_aload_n hx hb dX8_lifter_212 rfl (lv_at hl 1 rfl) ?_
        refine wd_get hC i8 hW 0 wC_c0 rfl 2 (Nat.le_of_ble_eq_true rfl) f28 rfl rfl dX8_lifter_213 ?_
        refine lv_iload_n hx hb dX8_lifter_216 rfl (lv_at hl 2 rfl) ?_
        obtain ⟨r33, hr34, h⟩ := bd_of h
        refine wd_callV1 (As := [.int p0]) hC hW 25 wC_c25 rfl (c_X4_sumOfM l D cy ad X S p0 r33 hr34) (cwV 1 hts (gu_V w_17_3 w_17_0 w_17_1 w_17_2 w_1_23) rfl rfl rfl hdX4_sumOf ⟨Nat.le_of_ble_eq_true rfl, Nat.le_of_ble_eq_true rfl⟩) rfl hl.1 rfl (Nat.le_of_ble_eq_true rfl) ⟨Nat.zero_le _, Nat.zero_le _⟩ dX8_lifter_217 (fun H locs hW => ?_)
        obtain rfl := Option.some.inj h
        exact wd_iret hA hQ hC hr hk hW dX8_lifter_220
      replace h := ite_f h c32
      have hsw : p2.toInt < 0 ∨ 11 < p2.toInt := by
        have : ¬ p2.toInt = 0 := lv_neT c8 rfl
        have : ¬ p2.toInt = 1 := lv_neT c9 rfl
        have : ¬ p2.toInt = 2 := lv_neT c10 rfl
        have : ¬ p2.toInt = 3 := lv_neT c12 rfl
        have : ¬ p2.toInt = 4 := lv_neT c14 rfl
        have : ¬ p2.toInt = 5 := lv_neT c16 rfl
        have : ¬ p2.toInt = 6 := lv_neT c18 rfl
        have : ¬ p2.toInt = 7 := lv_neT c20 rfl
        have : ¬ p2.toInt = 8 := lv_neT c23 rfl
        have : ¬ p2.toInt = 9 := lv_neT c25 rfl
        have : ¬ p2.toInt = 10 := lv_neT c29 rfl
        have : ¬ p2.toInt = 11 := lv_neT c32 rfl
        omega
      refine lv_tableOut (tgt := 221) hx hb dX8_lifter_26 hsw (by decide) ?_
      refine lv_iconst (v := (-1)) hx hb dX8_lifter_221 (by decide) ?_
      obtain rfl := Option.some.inj h
      exact wd_iret hA hQ hC hr hk hW dX8_lifter_222
    · replace h := ite_t h c6
      refine lv_iconst (v := (-1)) hx hb dX8_lifter_15 (by decide) ?_
      obtain rfl := Option.some.inj h
      exact wd_iret hA hQ hC hr hk hW dX8_lifter_16
def m_X8_called (n : Nat) (S : St) : Option (Int32 × St) :=
  (m_X4_next 30 25 n S).bind (fun r1 => if 0 ≤ r1 then (ck r1 6 ((m_X4_oddsNow 30 25 S r1).bind (fun r5 => (m_X8_tellTwo S (S.2.1 26 r1.toNatClampNeg) r5).bind (fun r7 => some (r1, r7))))) else (some ((-2), S)))
set_option maxHeartbeats 4000000 in
set_option maxRecDepth 100000 in
theorem c_X8_called (l : Launch) (D : va_G) (cy : Nat → ClassId) (ad : Nat → Nat) (X : va_W) (n : Nat) (S : St) (r : (Int32 × St)) (h : m_X8_called n S = some r) : CT l yX8_called (wu yX8_called cX8_called 2 (some .int)) 3 D cy [.ref (ad 0)] (wC ad cy S ++ X) (some (.int r.1)) (wC ad cy r.2 ++ X) := by
  refine CT.mk (cc := cX8_called) (maxL := 2) (ret := (some .int)) (own := RX8) (by decide) rfl rfl (Nat.le_of_ble_eq_true rfl) ?_
  intro p e s m args below meth c ls A Q hA hQ hC hr hk hW hl
  have hx := hC.1
  have hb := hC.2.1
  have hown := hC.2.2.2.1
  have hts := hC.2.2.2.2
  have hl : lv_has ls 2 [(0, .ref (ad 0))] := hl
  have f28 := hts _ (wu_in w_2_0)
  have i8 := (fun w h => wu_in (inc_8 w h) : ∀ w ∈ u_ws RX8 TX8 12, w ∈ (wu yX8_called cX8_called 2 (some .int)))
  have f130 := hts _ (wu_in w_16_12)
  have i4 := (fun w h => wu_in (inc_4 w h) : ∀ w ∈ u_ws RX4 TX4 16, w ∈ (wu yX8_called cX8_called 2 (some .int)))
  unfold m_X8_called at h
  refine lv_aload_n hx hb dX8_called_0 rfl (lv_at hl 0 rfl) ?_
  refine wd_get hC i8 hW 0 wC_c0 rfl 2 (Nat.le_of_ble_eq_true rfl) f28 rfl rfl dX8_called_1 ?_
  obtain ⟨r1, hr2, h⟩ := bd_of h
  refine wd_callV1 (As := []) hC hW 25 wC_c25 rfl (c_X4_nextM l D cy ad X n S r1 hr2) (cwV 0 hts (gu_V w_18_6 w_18_3 w_18_4 w_18_5 w_1_23) rfl rfl rfl hdX4_next ⟨Nat.le_of_ble_eq_true rfl, Nat.le_of_ble_eq_true rfl⟩) rfl hl.1 rfl (Nat.le_of_ble_eq_true rfl) ⟨Nat.zero_le _, Nat.zero_le _⟩ dX8_called_4 (fun H locs hW => ?_)
  refine lv_istore_n (lv' := [(1, .int r1), (0, .ref (ad 0))]) hx hb dX8_called_7 rfl hl (by decide) rfl (fun ls hl => ?_)
  refine lv_iload_n hx hb dX8_called_8 rfl (lv_at hl 0 rfl) ?_
  refine lv_if_ge (tgt := 15) hx hb dX8_called_9 (by decide) (fun c3 => ?_) (fun c3 => ?_)
  · replace h := ite_t h c3
    refine lv_aload_n hx hb dX8_called_15 rfl (lv_at hl 1 rfl) ?_
    refine lv_aload_n hx hb dX8_called_16 rfl (lv_at hl 1 rfl) ?_
    refine wd_get hC i8 hW 0 wC_c0 rfl 2 (Nat.le_of_ble_eq_true rfl) f28 rfl rfl dX8_called_17 ?_
    refine wd_get hC i4 hW 25 wC_c25 rfl 6 (Nat.le_of_ble_eq_true rfl) f130 rfl rfl dX8_called_20 ?_
    refine lv_iload_n hx hb dX8_called_23 rfl (lv_at hl 0 rfl) ?_
    obtain ⟨hi4, h⟩ := ck_of h
    refine wd_iald hC hW 26 wC_c26 hi4 dX8_called_24 ?_
    refine lv_aload_n hx hb dX8_called_25 rfl (lv_at hl 1 rfl) ?_
    refine wd_get hC i8 hW 0 wC_c0 rfl 2 (Nat.le_of_ble_eq_true rfl) f28 rfl rfl dX8_called_26 ?_
    refine lv_iload_n hx hb dX8_called_29 rfl (lv_at hl 0 rfl) ?_
    obtain ⟨r5, hr6, h⟩ := bd_of h
    refine wd_callV1 (As := [.int r1]) hC hW 25 wC_c25 rfl (c_X4_oddsNowM l D cy ad X S r1 r5 hr6) (cwV 1 hts (gu_V w_18_16 w_18_13 w_18_14 w_18_15 w_1_23) rfl rfl rfl hdX4_oddsNow ⟨Nat.le_of_ble_eq_true rfl, Nat.le_of_ble_eq_true rfl⟩) rfl hl.1 rfl (Nat.le_of_ble_eq_true rfl) ⟨Nat.zero_le _, Nat.zero_le _⟩ dX8_called_30 (fun H locs hW => ?_)
    obtain ⟨r7, hr8, h⟩ := bd_of h
    refine wd_callV0 (As := [.int (S.2.1 26 r1.toNatClampNeg), .int r5]) hC hW 0 wC_c0 rfl (c_X8_tellTwo l D cy ad X S (S.2.1 26 r1.toNatClampNeg) r5 r7 hr8) (cwV 2 hts (gu_V w_18_21 w_18_18 w_18_19 w_18_20 w_1_2) rfl rfl rfl hdX8_tellTwo ⟨Nat.le_of_ble_eq_true rfl, Nat.le_of_ble_eq_true rfl⟩) rfl hl.1 rfl (Nat.le_of_ble_eq_true rfl) ⟨Nat.zero_le _, Nat.zero_le _⟩ dX8_called_33 (fun H locs hW => ?_)
    refine lv_iload_n hx hb dX8_called_36 rfl (lv_at hl 0 rfl) ?_
    obtain rfl := Option.some.inj h
    exact wd_iret hA hQ hC hr hk hW dX8_called_37
  · replace h := ite_f h c3
    refine lv_bipush (v := (-2)) hx hb dX8_called_12 (by decide) ?_
    obtain rfl := Option.some.inj h
    exact wd_iret hA hQ hC hr hk hW dX8_called_14
def m_X8_order_L7 : Nat → St → Int32 → Option (St)
  | 0, _, _ => none
  | n + 1, S, x1 =>
    if (S.1 30) ≤ x1 then (some S) else ((m_X4_waits 30 25 S x1).bind (fun r6 => if r6 = 0 then (m_X8_order_L7 n S (x1 + 1)) else (ck x1 6 ((m_X4_sooner 30 25 n S x1 (S.2.1 26 x1.toNatClampNeg)).bind (fun r10 => ck r10 9 (nm (sJ S 58 r10.toNatClampNeg x1.toInt64) (fun S13 => nm (sI S13 0 ((S13.1 0) + 1)) (fun S15 => m_X8_order_L7 n S15 (x1 + 1)))))))))
theorem m_X8_order_L7_0 (S : St) (x1 : Int32) : m_X8_order_L7 0 S x1 = none := rfl
theorem m_X8_order_L7_s {n : Nat} {S : St} {x1 : Int32} : m_X8_order_L7 (n + 1) S x1 =
    (if (S.1 30) ≤ x1 then (some S) else ((m_X4_waits 30 25 S x1).bind (fun r6 => if r6 = 0 then (m_X8_order_L7 n S (x1 + 1)) else (ck x1 6 ((m_X4_sooner 30 25 n S x1 (S.2.1 26 x1.toNatClampNeg)).bind (fun r10 => ck r10 9 (nm (sJ S 58 r10.toNatClampNeg x1.toInt64) (fun S13 => nm (sI S13 0 ((S13.1 0) + 1)) (fun S15 => m_X8_order_L7 n S15 (x1 + 1)))))))))) := rfl
def m_X8_order (n : Nat) (S : St) : Option (Int32 × St) :=
  nm (sI S 0 0) (fun S1 => (m_X8_order_L7 n S1 0).bind (fun q3 => some (q3.1 0, q3)))
set_option maxHeartbeats 4000000 in
set_option maxRecDepth 100000 in
theorem c_X8_order (l : Launch) (D : va_G) (cy : Nat → ClassId) (ad : Nat → Nat) (X : va_W) (n : Nat) (S : St) (r : (Int32 × St)) (h : m_X8_order n S = some r) : CT l yX8_order (wu yX8_order cX8_order 2 (some .int)) 2 D cy [.ref (ad 0)] (wC ad cy S ++ X) (some (.int r.1)) (wC ad cy r.2 ++ X) := by
  refine CT.mk (cc := cX8_order) (maxL := 2) (ret := (some .int)) (own := RX8) (by decide) rfl rfl (Nat.le_of_ble_eq_true rfl) ?_
  intro p e s m args below meth c ls A Q hA hQ hC hr hk hW hl
  have hx := hC.1
  have hb := hC.2.1
  have hown := hC.2.2.2.1
  have hts := hC.2.2.2.2
  have hl : lv_has ls 2 [(0, .ref (ad 0))] := hl
  have f65 := hts _ (wu_in w_2_18)
  have i8 := (fun w h => wu_in (inc_8 w h) : ∀ w ∈ u_ws RX8 TX8 12, w ∈ (wu yX8_order cX8_order 2 (some .int)))
  have f28 := hts _ (wu_in w_2_0)
  have f87 := hts _ (wu_in w_7_11)
  have i4 := (fun w h => wu_in (inc_4 w h) : ∀ w ∈ u_ws RX4 TX4 16, w ∈ (wu yX8_order cX8_order 2 (some .int)))
  have f61 := hts _ (wu_in w_2_17)
  have f130 := hts _ (wu_in w_16_12)
  unfold m_X8_order at h
  refine lv_aload_n hx hb dX8_order_0 rfl (lv_at hl 0 rfl) ?_
  refine lv_iconst (v := 0) hx hb dX8_order_1 (by decide) ?_
  refine wd_put hC i8 tyX8_ok nmX8 hW 0 wC_c0 rfl 9 (Nat.le_of_ble_eq_true rfl) f65 rfl rfl rfl rfl (Nat.le_of_ble_eq_true rfl) wC_s0_9 dX8_order_2 (fun H locs hW => ?_)
  obtain ⟨S1, e2, h⟩ := nm_of h
  replace hW := wq_S e2 hW
  refine lv_iconst (v := 0) hx hb dX8_order_5 (by decide) ?_
  refine lv_istore_n (lv' := [(1, .int 0), (0, .ref (ad 0))]) hx hb dX8_order_6 rfl hl (by decide) rfl (fun ls hl => ?_)
  have hL7 : ∀ (n : Nat) (S : St) (x1 : Int32)  (H : Heap) (locs : List Loc) (ls : Array Slot) (r : (St)), m_X8_order_L7 n S x1 = some r → Wd D cy A s (wC ad cy S ++ X) H locs → lv_has ls 2 [(0, .ref (ad 0)), (1, .int x1)] → (∀ (H : Heap) (locs : List Loc) (ls : Array Slot), Wd D cy A s (wC ad cy r ++ X) H locs → lv_has ls 2 [(0, .ref (ad 0))] → W p l e (RM 2) s m args below meth c H locs 0 0 Q (F0 m 69 ls [])) → W p l e (RM 2) s m args below meth c H locs 0 0 Q (F0 m 7 ls []) := by
    intro n
    induction n with
    | zero =>
      intro S x1  H locs ls r h
      exact absurd (h.symm.trans (m_X8_order_L7_0 ..)) (by simp)
    | succ n ih =>
      intro S x1  H locs ls r h hW hl kk
      rw [m_X8_order_L7_s] at h
      refine lv_iload_n hx hb dX8_order_7 rfl (lv_at hl 1 rfl) ?_
      refine lv_aload_n hx hb dX8_order_8 rfl (lv_at hl 0 rfl) ?_
      refine wd_get hC i8 hW 0 wC_c0 rfl 2 (Nat.le_of_ble_eq_true rfl) f28 rfl rfl dX8_order_9 ?_
      refine wd_get hC i4 hW 25 wC_c25 rfl 1 (Nat.le_of_ble_eq_true rfl) f87 rfl rfl dX8_order_12 ?_
      refine lv_icmp_ge (tgt := 69) hx hb dX8_order_15 (by decide) (fun c5 => ?_) (fun c5 => ?_)
      · replace h := ite_t h c5
        obtain rfl := Option.some.inj h
        exact kk _ _ _ hW (lv_sub hl [0] rfl)
      · replace h := ite_f h c5
        refine lv_aload_n hx hb dX8_order_18 rfl (lv_at hl 0 rfl) ?_
        refine wd_get hC i8 hW 0 wC_c0 rfl 2 (Nat.le_of_ble_eq_true rfl) f28 rfl rfl dX8_order_19 ?_
        refine lv_iload_n hx hb dX8_order_22 rfl (lv_at hl 1 rfl) ?_
        obtain ⟨r6, hr7, h⟩ := bd_of h
        refine wd_callV1 (As := [.int x1]) hC hW 25 wC_c25 rfl (c_X4_waitsM l D cy ad X S x1 r6 hr7) (cwV 1 hts (gu_V w_16_23 w_16_20 w_16_21 w_16_22 w_1_23) rfl rfl rfl hdX4_waits ⟨Nat.le_of_ble_eq_true rfl, Nat.le_of_ble_eq_true rfl⟩) rfl hl.1 rfl (Nat.le_of_ble_eq_true rfl) ⟨Nat.zero_le _, Nat.zero_le _⟩ dX8_order_23 (fun H locs hW => ?_)
        refine lv_if_eq (tgt := 63) hx hb dX8_order_26 (by decide) (fun c8 => ?_) (fun c8 => ?_)
        · replace h := ite_t h c8
          refine lv_iinc (v := x1 + 1) (lv' := [(1, .int (x1 + 1)), (0, .ref (ad 0))]) hx hb dX8_order_63 hl (k := 1) rfl rfl (by decide) rfl (fun ls hl => ?_)
          refine lv_goto (tgt := 7) hx hb dX8_order_66 (by decide) ?_
          exact ih S (x1 + 1) _ _ _ r h hW (lv_sub hl [1, 0] rfl) kk
        · replace h := ite_f h c8
          refine lv_aload_n hx hb dX8_order_29 rfl (lv_at hl 0 rfl) ?_
          refine wd_get hC i8 hW 0 wC_c0 rfl 8 (Nat.le_of_ble_eq_true rfl) f61 rfl rfl dX8_order_30 ?_
          refine lv_aload_n hx hb dX8_order_33 rfl (lv_at hl 0 rfl) ?_
          refine wd_get hC i8 hW 0 wC_c0 rfl 2 (Nat.le_of_ble_eq_true rfl) f28 rfl rfl dX8_order_34 ?_
          refine lv_iload_n hx hb dX8_order_37 rfl (lv_at hl 1 rfl) ?_
          refine lv_aload_n hx hb dX8_order_38 rfl (lv_at hl 0 rfl) ?_
          refine wd_get hC i8 hW 0 wC_c0 rfl 2 (Nat.le_of_ble_eq_true rfl) f28 rfl rfl dX8_order_39 ?_
          refine wd_get hC i4 hW 25 wC_c25 rfl 6 (Nat.le_of_ble_eq_true rfl) f130 rfl rfl dX8_order_42 ?_
          refine lv_iload_n hx hb dX8_order_45 rfl (lv_at hl 1 rfl) ?_
          obtain ⟨hi9, h⟩ := ck_of h
          refine wd_iald hC hW 26 wC_c26 hi9 dX8_order_46 ?_
          obtain ⟨r10, hr11, h⟩ := bd_of h
          refine wd_callV1 (As := [.int x1, .int (S.2.1 26 x1.toNatClampNeg)]) hC hW 25 wC_c25 rfl (c_X4_soonerM l D cy ad X n S x1 (S.2.1 26 x1.toNatClampNeg) r10 hr11) (cwV 2 hts (gu_V w_18_11 w_19_19 w_18_9 w_18_10 w_1_23) rfl rfl rfl hdX4_sooner ⟨Nat.le_of_ble_eq_true rfl, Nat.le_of_ble_eq_true rfl⟩) rfl hl.1 rfl (Nat.le_of_ble_eq_true rfl) ⟨Nat.zero_le _, Nat.zero_le _⟩ dX8_order_47 (fun H locs hW => ?_)
          refine lv_iload_n hx hb dX8_order_50 rfl (lv_at hl 1 rfl) ?_
          refine lv_i2l (v := x1.toInt64) hx hb dX8_order_51 rfl ?_
          obtain ⟨hi12, h⟩ := ck_of h
          refine wd_last hC hW 58 wC_c58 hi12 wC_t58 dX8_order_52 (fun H locs hW => ?_)
          obtain ⟨S13, e14, h⟩ := nm_of h
          replace hW := wq_S e14 hW
          refine lv_aload_n hx hb dX8_order_53 rfl (lv_at hl 0 rfl) ?_
          refine lv_dup hx hb dX8_order_54 rfl ?_
          refine wd_get hC i8 hW 0 wC_c0 rfl 9 (Nat.le_of_ble_eq_true rfl) f65 rfl rfl dX8_order_55 ?_
          refine lv_iconst (v := 1) hx hb dX8_order_58 (by decide) ?_
          refine lv_iadd hx hb dX8_order_59 ?_
          refine wd_put hC i8 tyX8_ok nmX8 hW 0 wC_c0 rfl 9 (Nat.le_of_ble_eq_true rfl) f65 rfl rfl rfl rfl (Nat.le_of_ble_eq_true rfl) wC_s0_9 dX8_order_60 (fun H locs hW => ?_)
          obtain ⟨S15, e16, h⟩ := nm_of h
          replace hW := wq_S e16 hW
          refine lv_iinc (v := x1 + 1) (lv' := [(1, .int (x1 + 1)), (0, .ref (ad 0))]) hx hb dX8_order_63 hl (k := 1) rfl rfl (by decide) rfl (fun ls hl => ?_)
          refine lv_goto (tgt := 7) hx hb dX8_order_66 (by decide) ?_
          exact ih S15 (x1 + 1) _ _ _ r h hW (lv_sub hl [1, 0] rfl) kk
  obtain ⟨q3, hq4, h⟩ := bd_of h
  refine hL7 n S1 0  _ _ _ q3 hq4 hW (lv_sub hl [1, 0] rfl) (fun H locs ls hW hl => ?_)
  refine lv_aload_n hx hb dX8_order_69 rfl (lv_at hl 0 rfl) ?_
  refine wd_get hC i8 hW 0 wC_c0 rfl 9 (Nat.le_of_ble_eq_true rfl) f65 rfl rfl dX8_order_70 ?_
  obtain rfl := Option.some.inj h
  exact wd_iret hA hQ hC hr hk hW dX8_order_73
def m_X8_asks (S : St) (p0 : Int32) (p1 : Int32) : Option (Int32 × St) :=
  (m_X8_isLifter S p0).bind (fun r1 => if r1 = 0 then (some ((-1), S)) else ((m_X8_isLoad S p1).bind (fun r4 => if r4 = 0 then (some ((-1), S)) else ((m_X4_waits 30 25 S p0).bind (fun r7 => if r7 = 0 then (some ((-2), S)) else (ck p0 6 (if 0 < (S.2.1 28 p0.toNatClampNeg) then ((m_X4_leastOf 30 25 S p0).bind (fun r12 => if p1 < r12 then (some ((-4), S)) else (ck p0 6 (if p1 = (S.2.1 26 p0.toNatClampNeg) then (some ((-4), S)) else (ck p0 6 (nm (sA S 26 p0.toNatClampNeg p1) (fun S18 => ck p0 6 (ck p0 6 (nm (sA S18 28 p0.toNatClampNeg ((S18.2.1 28 p0.toNatClampNeg) - 1)) (fun S22 => ck p0 6 (some (S22.2.1 28 p0.toNatClampNeg, S22)))))))))))) else (some ((-3), S)))))))))
set_option maxHeartbeats 4000000 in
set_option maxRecDepth 100000 in
theorem c_X8_asks (l : Launch) (D : va_G) (cy : Nat → ClassId) (ad : Nat → Nat) (X : va_W) (S : St) (p0 : Int32) (p1 : Int32) (r : (Int32 × St)) (h : m_X8_asks S p0 p1 = some r) : CT l yX8_asks (wu yX8_asks cX8_asks 3 (some .int)) 2 D cy [.ref (ad 0), .int p0, .int p1] (wC ad cy S ++ X) (some (.int r.1)) (wC ad cy r.2 ++ X) := by
  refine CT.mk (cc := cX8_asks) (maxL := 3) (ret := (some .int)) (own := RX8) (by decide) rfl rfl (Nat.le_of_ble_eq_true rfl) ?_
  intro p e s m args below meth c ls A Q hA hQ hC hr hk hW hl
  have hx := hC.1
  have hb := hC.2.1
  have hown := hC.2.2.2.1
  have hts := hC.2.2.2.2
  have hl : lv_has ls 3 [(0, .ref (ad 0)), (1, .int p0), (2, .int p1)] := hl
  have f28 := hts _ (wu_in w_2_0)
  have i8 := (fun w h => wu_in (inc_8 w h) : ∀ w ∈ u_ws RX8 TX8 12, w ∈ (wu yX8_asks cX8_asks 3 (some .int)))
  have f137 := hts _ (wu_in w_16_13)
  have i4 := (fun w h => wu_in (inc_4 w h) : ∀ w ∈ u_ws RX4 TX4 16, w ∈ (wu yX8_asks cX8_asks 3 (some .int)))
  have f130 := hts _ (wu_in w_16_12)
  unfold m_X8_asks at h
  refine lv_aload_n hx hb dX8_asks_0 rfl (lv_at hl 0 rfl) ?_
  refine lv_iload_n hx hb dX8_asks_1 rfl (lv_at hl 1 rfl) ?_
  obtain ⟨r1, hr2, h⟩ := bd_of h
  refine wd_callV1 (As := [.int p0]) hC hW 0 wC_c0 rfl (c_X8_isLifter l D cy ad X S p0 r1 hr2) (cwV 1 hts (gu_V w_13_9 w_13_6 w_13_7 w_13_8 w_1_2) rfl rfl rfl hdX8_isLifter ⟨Nat.le_of_ble_eq_true rfl, Nat.le_of_ble_eq_true rfl⟩) rfl hl.1 rfl (Nat.le_of_ble_eq_true rfl) ⟨Nat.zero_le _, Nat.zero_le _⟩ dX8_asks_2 (fun H locs hW => ?_)
  refine lv_if_eq (tgt := 15) hx hb dX8_asks_5 (by decide) (fun c3 => ?_) (fun c3 => ?_)
  · replace h := ite_t h c3
    refine lv_iconst (v := (-1)) hx hb dX8_asks_15 (by decide) ?_
    obtain rfl := Option.some.inj h
    exact wd_iret hA hQ hC hr hk hW dX8_asks_16
  · replace h := ite_f h c3
    refine lv_iload_n hx hb dX8_asks_8 rfl (lv_at hl 2 rfl) ?_
    obtain ⟨r4, hr5, h⟩ := bd_of h
    refine wd_callS1 (As := [.int p1]) hC hW (c_X8_isLoad l D cy ad X S p1 r4 hr5) (va_cwS 1 hts (gu_S w_13_18 w_13_16 w_13_17 w_1_2) rfl rfl rfl hdX8_isLoad ⟨Nat.le_of_ble_eq_true rfl, Nat.le_of_ble_eq_true rfl⟩) rfl hl.1 rfl (Nat.le_of_ble_eq_true rfl) ⟨Nat.zero_le _, Nat.zero_le _⟩ dX8_asks_9 (fun H locs hW => ?_)
    refine lv_if_ne (tgt := 17) hx hb dX8_asks_12 (by decide) (fun c6 => ?_) (fun c6 => ?_)
    · replace h := ite_f h c6
      refine lv_aload_n hx hb dX8_asks_17 rfl (lv_at hl 0 rfl) ?_
      refine wd_get hC i8 hW 0 wC_c0 rfl 2 (Nat.le_of_ble_eq_true rfl) f28 rfl rfl dX8_asks_18 ?_
      refine lv_iload_n hx hb dX8_asks_21 rfl (lv_at hl 1 rfl) ?_
      obtain ⟨r7, hr8, h⟩ := bd_of h
      refine wd_callV1 (As := [.int p0]) hC hW 25 wC_c25 rfl (c_X4_waitsM l D cy ad X S p0 r7 hr8) (cwV 1 hts (gu_V w_16_23 w_16_20 w_16_21 w_16_22 w_1_23) rfl rfl rfl hdX4_waits ⟨Nat.le_of_ble_eq_true rfl, Nat.le_of_ble_eq_true rfl⟩) rfl hl.1 rfl (Nat.le_of_ble_eq_true rfl) ⟨Nat.zero_le _, Nat.zero_le _⟩ dX8_asks_22 (fun H locs hW => ?_)
      refine lv_if_ne (tgt := 31) hx hb dX8_asks_25 (by decide) (fun c9 => ?_) (fun c9 => ?_)
      · replace h := ite_f h c9
        refine lv_aload_n hx hb dX8_asks_31 rfl (lv_at hl 0 rfl) ?_
        refine wd_get hC i8 hW 0 wC_c0 rfl 2 (Nat.le_of_ble_eq_true rfl) f28 rfl rfl dX8_asks_32 ?_
        refine wd_get hC i4 hW 25 wC_c25 rfl 8 (Nat.le_of_ble_eq_true rfl) f137 rfl rfl dX8_asks_35 ?_
        refine lv_iload_n hx hb dX8_asks_38 rfl (lv_at hl 1 rfl) ?_
        obtain ⟨hi10, h⟩ := ck_of h
        refine wd_iald hC hW 28 wC_c28 hi10 dX8_asks_39 ?_
        refine lv_if_gt (tgt := 46) hx hb dX8_asks_40 (by decide) (fun c11 => ?_) (fun c11 => ?_)
        · replace h := ite_t h c11
          refine lv_iload_n hx hb dX8_asks_46 rfl (lv_at hl 2 rfl) ?_
          refine lv_aload_n hx hb dX8_asks_47 rfl (lv_at hl 0 rfl) ?_
          refine wd_get hC i8 hW 0 wC_c0 rfl 2 (Nat.le_of_ble_eq_true rfl) f28 rfl rfl dX8_asks_48 ?_
          refine lv_iload_n hx hb dX8_asks_51 rfl (lv_at hl 1 rfl) ?_
          obtain ⟨r12, hr13, h⟩ := bd_of h
          refine wd_callV1 (As := [.int p0]) hC hW 25 wC_c25 rfl (c_X4_leastOfM l D cy ad X S p0 r12 hr13) (cwV 1 hts (gu_V w_16_18 w_16_15 w_16_16 w_16_17 w_1_23) rfl rfl rfl hdX4_leastOf ⟨Nat.le_of_ble_eq_true rfl, Nat.le_of_ble_eq_true rfl⟩) rfl hl.1 rfl (Nat.le_of_ble_eq_true rfl) ⟨Nat.zero_le _, Nat.zero_le _⟩ dX8_asks_52 (fun H locs hW => ?_)
          refine lv_icmp_lt (tgt := 71) hx hb dX8_asks_55 (by decide) (fun c14 => ?_) (fun c14 => ?_)
          · replace h := ite_t h c14
            refine lv_bipush (v := (-4)) hx hb dX8_asks_71 (by decide) ?_
            obtain rfl := Option.some.inj h
            exact wd_iret hA hQ hC hr hk hW dX8_asks_73
          · replace h := ite_f h c14
            refine lv_iload_n hx hb dX8_asks_58 rfl (lv_at hl 2 rfl) ?_
            refine lv_aload_n hx hb dX8_asks_59 rfl (lv_at hl 0 rfl) ?_
            refine wd_get hC i8 hW 0 wC_c0 rfl 2 (Nat.le_of_ble_eq_true rfl) f28 rfl rfl dX8_asks_60 ?_
            refine wd_get hC i4 hW 25 wC_c25 rfl 6 (Nat.le_of_ble_eq_true rfl) f130 rfl rfl dX8_asks_63 ?_
            refine lv_iload_n hx hb dX8_asks_66 rfl (lv_at hl 1 rfl) ?_
            obtain ⟨hi15, h⟩ := ck_of h
            refine wd_iald hC hW 26 wC_c26 hi15 dX8_asks_67 ?_
            refine lv_icmp_ne (tgt := 74) hx hb dX8_asks_68 (by decide) (fun c16 => ?_) (fun c16 => ?_)
            · replace h := ite_f h c16
              refine lv_aload_n hx hb dX8_asks_74 rfl (lv_at hl 0 rfl) ?_
              refine wd_get hC i8 hW 0 wC_c0 rfl 2 (Nat.le_of_ble_eq_true rfl) f28 rfl rfl dX8_asks_75 ?_
              refine wd_get hC i4 hW 25 wC_c25 rfl 6 (Nat.le_of_ble_eq_true rfl) f130 rfl rfl dX8_asks_78 ?_
              refine lv_iload_n hx hb dX8_asks_81 rfl (lv_at hl 1 rfl) ?_
              refine lv_iload_n hx hb dX8_asks_82 rfl (lv_at hl 2 rfl) ?_
              obtain ⟨hi17, h⟩ := ck_of h
              refine wd_iast hC hW 26 wC_c26 hi17 wC_t26 dX8_asks_83 (fun H locs hW => ?_)
              obtain ⟨S18, e19, h⟩ := nm_of h
              replace hW := wq_S e19 hW
              refine lv_aload_n hx hb dX8_asks_84 rfl (lv_at hl 0 rfl) ?_
              refine wd_get hC i8 hW 0 wC_c0 rfl 2 (Nat.le_of_ble_eq_true rfl) f28 rfl rfl dX8_asks_85 ?_
              refine wd_get hC i4 hW 25 wC_c25 rfl 8 (Nat.le_of_ble_eq_true rfl) f137 rfl rfl dX8_asks_88 ?_
              refine lv_iload_n hx hb dX8_asks_91 rfl (lv_at hl 1 rfl) ?_
              refine lv_dup2_11 hx hb dX8_asks_92 rfl rfl ?_
              obtain ⟨hi20, h⟩ := ck_of h
              refine wd_iald hC hW 28 wC_c28 hi20 dX8_asks_93 ?_
              refine lv_iconst (v := 1) hx hb dX8_asks_94 (by decide) ?_
              refine lv_isub hx hb dX8_asks_95 ?_
              obtain ⟨hi21, h⟩ := ck_of h
              refine wd_iast hC hW 28 wC_c28 hi21 wC_t28 dX8_asks_96 (fun H locs hW => ?_)
              obtain ⟨S22, e23, h⟩ := nm_of h
              replace hW := wq_S e23 hW
              refine lv_aload_n hx hb dX8_asks_97 rfl (lv_at hl 0 rfl) ?_
              refine wd_get hC i8 hW 0 wC_c0 rfl 2 (Nat.le_of_ble_eq_true rfl) f28 rfl rfl dX8_asks_98 ?_
              refine wd_get hC i4 hW 25 wC_c25 rfl 8 (Nat.le_of_ble_eq_true rfl) f137 rfl rfl dX8_asks_101 ?_
              refine lv_iload_n hx hb dX8_asks_104 rfl (lv_at hl 1 rfl) ?_
              obtain ⟨hi24, h⟩ := ck_of h
              refine wd_iald hC hW 28 wC_c28 hi24 dX8_asks_105 ?_
              obtain rfl := Option.some.inj h
              exact wd_iret hA hQ hC hr hk hW dX8_asks_106
            · replace h := ite_t h c16
              refine lv_bipush (v := (-4)) hx hb dX8_asks_71 (by decide) ?_
              obtain rfl := Option.some.inj h
              exact wd_iret hA hQ hC hr hk hW dX8_asks_73
        · replace h := ite_f h c11
          refine lv_bipush (v := (-3)) hx hb dX8_asks_43 (by decide) ?_
          obtain rfl := Option.some.inj h
          exact wd_iret hA hQ hC hr hk hW dX8_asks_45
      · replace h := ite_t h c9
        refine lv_bipush (v := (-2)) hx hb dX8_asks_28 (by decide) ?_
        obtain rfl := Option.some.inj h
        exact wd_iret hA hQ hC hr hk hW dX8_asks_30
    · replace h := ite_t h c6
      refine lv_iconst (v := (-1)) hx hb dX8_asks_15 (by decide) ?_
      obtain rfl := Option.some.inj h
      exact wd_iret hA hQ hC hr hk hW dX8_asks_16
def m_X8_tries (n : Nat) (S : St) (p0 : Int32) : Option (Int32 × St) :=
  (m_X4_next 30 25 n S).bind (fun r1 => if 0 ≤ r1 then (ck r1 6 ((m_X4_take 30 25 S r1 p0).bind (fun r5 => ck r1 6 ((m_X8_tellTwo r5 (S.2.1 26 r1.toNatClampNeg) (r5.2.1 26 r1.toNatClampNeg)).bind (fun r8 => (m_X4_goOn 30 25 n r8).bind (fun r10 => some (r1, r10))))))) else (some ((-2), S)))
set_option maxHeartbeats 4000000 in
set_option maxRecDepth 100000 in
theorem c_X8_tries (l : Launch) (D : va_G) (cy : Nat → ClassId) (ad : Nat → Nat) (X : va_W) (n : Nat) (S : St) (p0 : Int32) (r : (Int32 × St)) (h : m_X8_tries n S p0 = some r) : CT l yX8_tries (wu yX8_tries cX8_tries 4 (some .int)) 4 D cy [.ref (ad 0), .int p0] (wC ad cy S ++ X) (some (.int r.1)) (wC ad cy r.2 ++ X) := by
  refine CT.mk (cc := cX8_tries) (maxL := 4) (ret := (some .int)) (own := RX8) (by decide) rfl rfl (Nat.le_of_ble_eq_true rfl) ?_
  intro p e s m args below meth c ls A Q hA hQ hC hr hk hW hl
  have hx := hC.1
  have hb := hC.2.1
  have hown := hC.2.2.2.1
  have hts := hC.2.2.2.2
  have hl : lv_has ls 4 [(0, .ref (ad 0)), (1, .int p0)] := hl
  have f28 := hts _ (wu_in w_2_0)
  have i8 := (fun w h => wu_in (inc_8 w h) : ∀ w ∈ u_ws RX8 TX8 12, w ∈ (wu yX8_tries cX8_tries 4 (some .int)))
  have f130 := hts _ (wu_in w_16_12)
  have i4 := (fun w h => wu_in (inc_4 w h) : ∀ w ∈ u_ws RX4 TX4 16, w ∈ (wu yX8_tries cX8_tries 4 (some .int)))
  unfold m_X8_tries at h
  refine lv_aload_n hx hb dX8_tries_0 rfl (lv_at hl 0 rfl) ?_
  refine wd_get hC i8 hW 0 wC_c0 rfl 2 (Nat.le_of_ble_eq_true rfl) f28 rfl rfl dX8_tries_1 ?_
  obtain ⟨r1, hr2, h⟩ := bd_of h
  refine wd_callV1 (As := []) hC hW 25 wC_c25 rfl (c_X4_nextM l D cy ad X n S r1 hr2) (cwV 0 hts (gu_V w_18_6 w_18_3 w_18_4 w_18_5 w_1_23) rfl rfl rfl hdX4_next ⟨Nat.le_of_ble_eq_true rfl, Nat.le_of_ble_eq_true rfl⟩) rfl hl.1 rfl (Nat.le_of_ble_eq_true rfl) ⟨Nat.zero_le _, Nat.zero_le _⟩ dX8_tries_4 (fun H locs hW => ?_)
  refine lv_istore_n (lv' := [(2, .int r1), (0, .ref (ad 0)), (1, .int p0)]) hx hb dX8_tries_7 rfl hl (by decide) rfl (fun ls hl => ?_)
  refine lv_iload_n hx hb dX8_tries_8 rfl (lv_at hl 0 rfl) ?_
  refine lv_if_ge (tgt := 15) hx hb dX8_tries_9 (by decide) (fun c3 => ?_) (fun c3 => ?_)
  · replace h := ite_t h c3
    refine lv_aload_n hx hb dX8_tries_15 rfl (lv_at hl 1 rfl) ?_
    refine wd_get hC i8 hW 0 wC_c0 rfl 2 (Nat.le_of_ble_eq_true rfl) f28 rfl rfl dX8_tries_16 ?_
    refine wd_get hC i4 hW 25 wC_c25 rfl 6 (Nat.le_of_ble_eq_true rfl) f130 rfl rfl dX8_tries_19 ?_
    refine lv_iload_n hx hb dX8_tries_22 rfl (lv_at hl 0 rfl) ?_
    obtain ⟨hi4, h⟩ := ck_of h
    refine wd_iald hC hW 26 wC_c26 hi4 dX8_tries_23 ?_
    refine lv_istore_n (lv' := [(3, .int (S.2.1 26 r1.toNatClampNeg)), (2, .int r1), (0, .ref (ad 0)), (1, .int p0)]) hx hb dX8_tries_24 rfl hl (by decide) rfl (fun ls hl => ?_)
    refine lv_aload_n hx hb dX8_tries_25 rfl (lv_at hl 2 rfl) ?_
    refine wd_get hC i8 hW 0 wC_c0 rfl 2 (Nat.le_of_ble_eq_true rfl) f28 rfl rfl dX8_tries_26 ?_
    refine lv_iload_n hx hb dX8_tries_29 rfl (lv_at hl 1 rfl) ?_
    refine lv_iload_n hx hb dX8_tries_30 rfl (lv_at hl 3 rfl) ?_
    obtain ⟨r5, hr6, h⟩ := bd_of h
    refine wd_callV0 (As := [.int r1, .int p0]) hC hW 25 wC_c25 rfl (c_X4_takeM l D cy ad X S r1 p0 r5 hr6) (cwV 2 hts (gu_V w_20_19 w_20_16 w_20_17 w_20_18 w_1_23) rfl rfl rfl hdX4_take ⟨Nat.le_of_ble_eq_true rfl, Nat.le_of_ble_eq_true rfl⟩) rfl hl.1 rfl (Nat.le_of_ble_eq_true rfl) ⟨Nat.zero_le _, Nat.zero_le _⟩ dX8_tries_31 (fun H locs hW => ?_)
    refine lv_aload_n hx hb dX8_tries_34 rfl (lv_at hl 2 rfl) ?_
    refine lv_iload_n hx hb dX8_tries_35 rfl (lv_at hl 0 rfl) ?_
    refine lv_aload_n hx hb dX8_tries_36 rfl (lv_at hl 2 rfl) ?_
    refine wd_get hC i8 hW 0 wC_c0 rfl 2 (Nat.le_of_ble_eq_true rfl) f28 rfl rfl dX8_tries_37 ?_
    refine wd_get hC i4 hW 25 wC_c25 rfl 6 (Nat.le_of_ble_eq_true rfl) f130 rfl rfl dX8_tries_40 ?_
    refine lv_iload_n hx hb dX8_tries_43 rfl (lv_at hl 1 rfl) ?_
    obtain ⟨hi7, h⟩ := ck_of h
    refine wd_iald hC hW 26 wC_c26 hi7 dX8_tries_44 ?_
    obtain ⟨r8, hr9, h⟩ := bd_of h
    refine wd_callV0 (As := [.int (S.2.1 26 r1.toNatClampNeg), .int (r5.2.1 26 r1.toNatClampNeg)]) hC hW 0 wC_c0 rfl (c_X8_tellTwo l D cy ad X r5 (S.2.1 26 r1.toNatClampNeg) (r5.2.1 26 r1.toNatClampNeg) r8 hr9) (cwV 2 hts (gu_V w_18_21 w_18_18 w_18_19 w_18_20 w_1_2) rfl rfl rfl hdX8_tellTwo ⟨Nat.le_of_ble_eq_true rfl, Nat.le_of_ble_eq_true rfl⟩) rfl hl.1 rfl (Nat.le_of_ble_eq_true rfl) ⟨Nat.zero_le _, Nat.zero_le _⟩ dX8_tries_45 (fun H locs hW => ?_)
    refine lv_aload_n hx hb dX8_tries_48 rfl (lv_at hl 2 rfl) ?_
    refine wd_get hC i8 hW 0 wC_c0 rfl 2 (Nat.le_of_ble_eq_true rfl) f28 rfl rfl dX8_tries_49 ?_
    obtain ⟨r10, hr11, h⟩ := bd_of h
    refine wd_callV0 (As := []) hC hW 25 wC_c25 rfl (c_X4_goOnM l D cy ad X n r8 r10 hr11) (cwV 0 hts (gu_V w_20_23 w_20_20 w_20_21 w_20_22 w_1_23) rfl rfl rfl hdX4_goOn ⟨Nat.le_of_ble_eq_true rfl, Nat.le_of_ble_eq_true rfl⟩) rfl hl.1 rfl (Nat.le_of_ble_eq_true rfl) ⟨Nat.zero_le _, Nat.zero_le _⟩ dX8_tries_52 (fun H locs hW => ?_)
    refine lv_iload_n hx hb dX8_tries_55 rfl (lv_at hl 1 rfl) ?_
    obtain rfl := Option.some.inj h
    exact wd_iret hA hQ hC hr hk hW dX8_tries_56
  · replace h := ite_f h c3
    refine lv_bipush (v := (-2)) hx hb dX8_tries_12 (by decide) ?_
    obtain rfl := Option.some.inj h
    exact wd_iret hA hQ hC hr hk hW dX8_tries_14
def m_X8_tried (S : St) (p0 : Int32) (p1 : Int32) : Option (Int32) :=
  if p0 < 0 then (some (-1)) else (if (S.1 35) ≤ p0 then (some (-1)) else (if p1 < 0 then (some (-1)) else (if p1 ≤ 3 then (ck ((p0 * 4) + p1) 216 (some (S.2.1 33 ((p0 * 4) + p1).toNatClampNeg))) else (some (-1)))))
set_option maxHeartbeats 4000000 in
set_option maxRecDepth 100000 in
theorem c_X8_tried (l : Launch) (D : va_G) (cy : Nat → ClassId) (ad : Nat → Nat) (X : va_W) (S : St) (p0 : Int32) (p1 : Int32) (r : (Int32)) (h : m_X8_tried S p0 p1 = some r) : CT l yX8_tried (wu yX8_tried cX8_tried 3 (some .int)) 0 D cy [.ref (ad 0), .int p0, .int p1] (wC ad cy S ++ X) (some (.int r)) (wC ad cy S ++ X) := by
  refine CT.mk (cc := cX8_tried) (maxL := 3) (ret := (some .int)) (own := RX8) (by decide) rfl rfl (Nat.le_of_ble_eq_true rfl) ?_
  intro p e s m args below meth c ls A Q hA hQ hC hr hk hW hl
  have hx := hC.1
  have hb := hC.2.1
  have hown := hC.2.2.2.1
  have hts := hC.2.2.2.2
  have hl : lv_has ls 3 [(0, .ref (ad 0)), (1, .int p0), (2, .int p1)] := hl
  have f28 := hts _ (wu_in w_2_0)
  have i8 := (fun w h => wu_in (inc_8 w h) : ∀ w ∈ u_ws RX8 TX8 12, w ∈ (wu yX8_tried cX8_tried 3 (some .int)))
  have f172 := hts _ (wu_in w_22_6)
  have i4 := (fun w h => wu_in (inc_4 w h) : ∀ w ∈ u_ws RX4 TX4 16, w ∈ (wu yX8_tried cX8_tried 3 (some .int)))
  have f175 := hts _ (wu_in w_22_7)
  unfold m_X8_tried at h
  refine lv_iload_n hx hb dX8_tried_0 rfl (lv_at hl 1 rfl) ?_
  refine lv_if_lt (tgt := 24) hx hb dX8_tried_1 (by decide) (fun c1 => ?_) (fun c1 => ?_)
  · replace h := ite_t h c1
    refine lv_iconst (v := (-1)) hx hb dX8_tried_24 (by decide) ?_
    obtain rfl := Option.some.inj h
    exact wd_iret hA hQ hC hr hk hW dX8_tried_25
  · replace h := ite_f h c1
    refine lv_iload_n hx hb dX8_tried_4 rfl (lv_at hl 1 rfl) ?_
    refine lv_aload_n hx hb dX8_tried_5 rfl (lv_at hl 0 rfl) ?_
    refine wd_get hC i8 hW 0 wC_c0 rfl 2 (Nat.le_of_ble_eq_true rfl) f28 rfl rfl dX8_tried_6 ?_
    refine wd_get hC i4 hW 25 wC_c25 rfl 14 (Nat.le_of_ble_eq_true rfl) f172 rfl rfl dX8_tried_9 ?_
    refine lv_icmp_ge (tgt := 24) hx hb dX8_tried_12 (by decide) (fun c2 => ?_) (fun c2 => ?_)
    · replace h := ite_t h c2
      refine lv_iconst (v := (-1)) hx hb dX8_tried_24 (by decide) ?_
      obtain rfl := Option.some.inj h
      exact wd_iret hA hQ hC hr hk hW dX8_tried_25
    · replace h := ite_f h c2
      refine lv_iload_n hx hb dX8_tried_15 rfl (lv_at hl 2 rfl) ?_
      refine lv_if_lt (tgt := 24) hx hb dX8_tried_16 (by decide) (fun c3 => ?_) (fun c3 => ?_)
      · replace h := ite_t h c3
        refine lv_iconst (v := (-1)) hx hb dX8_tried_24 (by decide) ?_
        obtain rfl := Option.some.inj h
        exact wd_iret hA hQ hC hr hk hW dX8_tried_25
      · replace h := ite_f h c3
        refine lv_iload_n hx hb dX8_tried_19 rfl (lv_at hl 2 rfl) ?_
        refine lv_iconst (v := 3) hx hb dX8_tried_20 (by decide) ?_
        refine lv_icmp_le (tgt := 26) hx hb dX8_tried_21 (by decide) (fun c4 => ?_) (fun c4 => ?_)
        · replace h := ite_t h c4
          refine lv_aload_n hx hb dX8_tried_26 rfl (lv_at hl 0 rfl) ?_
          refine wd_get hC i8 hW 0 wC_c0 rfl 2 (Nat.le_of_ble_eq_true rfl) f28 rfl rfl dX8_tried_27 ?_
          refine wd_get hC i4 hW 25 wC_c25 rfl 13 (Nat.le_of_ble_eq_true rfl) f175 rfl rfl dX8_tried_30 ?_
          refine lv_iload_n hx hb dX8_tried_33 rfl (lv_at hl 1 rfl) ?_
          refine lv_iconst (v := 4) hx hb dX8_tried_34 (by decide) ?_
          refine lv_imul hx hb dX8_tried_35 ?_
          refine lv_iload_n hx hb dX8_tried_36 rfl (lv_at hl 2 rfl) ?_
          refine lv_iadd hx hb dX8_tried_37 ?_
          obtain ⟨hi5, h⟩ := ck_of h
          refine wd_iald hC hW 33 wC_c33 hi5 dX8_tried_38 ?_
          obtain rfl := Option.some.inj h
          exact wd_iret hA hQ hC hr hk hW dX8_tried_39
        · replace h := ite_f h c4
          refine lv_iconst (v := (-1)) hx hb dX8_tried_24 (by decide) ?_
          obtain rfl := Option.some.inj h
          exact wd_iret hA hQ hC hr hk hW dX8_tried_25
def m_X8_place (n : Nat) (S : St) (p0 : Int32) : Option (Int32 × St) :=
  (m_X8_isLifter S p0).bind (fun r1 => if r1 = 0 then (some ((-1), S)) else ((m_X8_tellPlaces n S).bind (fun r4 => (m_X4_placeOf 30 25 n r4 p0).bind (fun r6 => some (r6, r4)))))
set_option maxHeartbeats 4000000 in
set_option maxRecDepth 100000 in
theorem c_X8_place (l : Launch) (D : va_G) (cy : Nat → ClassId) (ad : Nat → Nat) (X : va_W) (n : Nat) (S : St) (p0 : Int32) (r : (Int32 × St)) (h : m_X8_place n S p0 = some r) : CT l yX8_place (wu yX8_place cX8_place 2 (some .int)) 4 D cy [.ref (ad 0), .int p0] (wC ad cy S ++ X) (some (.int r.1)) (wC ad cy r.2 ++ X) := by
  refine CT.mk (cc := cX8_place) (maxL := 2) (ret := (some .int)) (own := RX8) (by decide) rfl rfl (Nat.le_of_ble_eq_true rfl) ?_
  intro p e s m args below meth c ls A Q hA hQ hC hr hk hW hl
  have hx := hC.1
  have hb := hC.2.1
  have hown := hC.2.2.2.1
  have hts := hC.2.2.2.2
  have hl : lv_has ls 2 [(0, .ref (ad 0)), (1, .int p0)] := hl
  have f28 := hts _ (wu_in w_2_0)
  have i8 := (fun w h => wu_in (inc_8 w h) : ∀ w ∈ u_ws RX8 TX8 12, w ∈ (wu yX8_place cX8_place 2 (some .int)))
  unfold m_X8_place at h
  refine lv_aload_n hx hb dX8_place_0 rfl (lv_at hl 0 rfl) ?_
  refine lv_iload_n hx hb dX8_place_1 rfl (lv_at hl 1 rfl) ?_
  obtain ⟨r1, hr2, h⟩ := bd_of h
  refine wd_callV1 (As := [.int p0]) hC hW 0 wC_c0 rfl (c_X8_isLifter l D cy ad X S p0 r1 hr2) (cwV 1 hts (gu_V w_13_9 w_13_6 w_13_7 w_13_8 w_1_2) rfl rfl rfl hdX8_isLifter ⟨Nat.le_of_ble_eq_true rfl, Nat.le_of_ble_eq_true rfl⟩) rfl hl.1 rfl (Nat.le_of_ble_eq_true rfl) ⟨Nat.zero_le _, Nat.zero_le _⟩ dX8_place_2 (fun H locs hW => ?_)
  refine lv_if_ne (tgt := 10) hx hb dX8_place_5 (by decide) (fun c3 => ?_) (fun c3 => ?_)
  · replace h := ite_f h c3
    refine lv_aload_n hx hb dX8_place_10 rfl (lv_at hl 0 rfl) ?_
    obtain ⟨r4, hr5, h⟩ := bd_of h
    refine wd_callV0 (As := []) hC hW 0 wC_c0 rfl (c_X8_tellPlaces l D cy ad X n S r4 hr5) (cwV 0 hts (gu_V w_22_20 w_22_17 w_22_18 w_22_19 w_1_2) rfl rfl rfl hdX8_tellPlaces ⟨Nat.le_of_ble_eq_true rfl, Nat.le_of_ble_eq_true rfl⟩) rfl hl.1 rfl (Nat.le_of_ble_eq_true rfl) ⟨Nat.zero_le _, Nat.zero_le _⟩ dX8_place_11 (fun H locs hW => ?_)
    refine lv_aload_n hx hb dX8_place_14 rfl (lv_at hl 0 rfl) ?_
    refine wd_get hC i8 hW 0 wC_c0 rfl 2 (Nat.le_of_ble_eq_true rfl) f28 rfl rfl dX8_place_15 ?_
    refine lv_iload_n hx hb dX8_place_18 rfl (lv_at hl 1 rfl) ?_
    obtain ⟨r6, hr7, h⟩ := bd_of h
    refine wd_callV1 (As := [.int p0]) hC hW 25 wC_c25 rfl (c_X4_placeOfM l D cy ad X n r4 p0 r6 hr7) (cwV 1 hts (gu_V w_23_0 w_22_21 w_22_22 w_22_23 w_1_23) rfl rfl rfl hdX4_placeOf ⟨Nat.le_of_ble_eq_true rfl, Nat.le_of_ble_eq_true rfl⟩) rfl hl.1 rfl (Nat.le_of_ble_eq_true rfl) ⟨Nat.zero_le _, Nat.zero_le _⟩ dX8_place_19 (fun H locs hW => ?_)
    obtain rfl := Option.some.inj h
    exact wd_iret hA hQ hC hr hk hW dX8_place_22
  · replace h := ite_t h c3
    refine lv_iconst (v := (-1)) hx hb dX8_place_8 (by decide) ?_
    obtain rfl := Option.some.inj h
    exact wd_iret hA hQ hC hr hk hW dX8_place_9
def m_X8_slot_L37 : Nat → St → Int32 → Int32 → Int32 → Option (Int32)
  | 0, _, _, _, _ => none
  | n + 1, S, x1, x2, x3 =>
    if 40 < x3 then (some (-3)) else ((m_X4_sooner 30 25 n S x1 x3).bind (fun r11 => if r11 = x2 then (some x3) else (m_X8_slot_L37 n S x1 x2 (x3 + 1))))
theorem m_X8_slot_L37_0 (S : St) (x1 : Int32) (x2 : Int32) (x3 : Int32) : m_X8_slot_L37 0 S x1 x2 x3 = none := rfl
theorem m_X8_slot_L37_s {n : Nat} {S : St} {x1 : Int32} {x2 : Int32} {x3 : Int32} : m_X8_slot_L37 (n + 1) S x1 x2 x3 =
    (if 40 < x3 then (some (-3)) else ((m_X4_sooner 30 25 n S x1 x3).bind (fun r11 => if r11 = x2 then (some x3) else (m_X8_slot_L37 n S x1 x2 (x3 + 1))))) := rfl
def m_X8_slot (n : Nat) (S : St) (p0 : Int32) (p1 : Int32) : Option (Int32) :=
  (m_X8_isLifter S p0).bind (fun r1 => if r1 = 0 then (some (-1)) else (if 0 ≤ p1 then ((m_X4_waits 30 25 S p0).bind (fun r5 => if r5 = 0 then (some (-2)) else ((m_X4_leastOf 30 25 S p0).bind (fun r8 => m_X8_slot_L37 n S p0 p1 r8)))) else (some (-1))))
set_option maxHeartbeats 4000000 in
set_option maxRecDepth 100000 in
theorem c_X8_slot (l : Launch) (D : va_G) (cy : Nat → ClassId) (ad : Nat → Nat) (X : va_W) (n : Nat) (S : St) (p0 : Int32) (p1 : Int32) (r : (Int32)) (h : m_X8_slot n S p0 p1 = some r) : CT l yX8_slot (wu yX8_slot cX8_slot 4 (some .int)) 2 D cy [.ref (ad 0), .int p0, .int p1] (wC ad cy S ++ X) (some (.int r)) (wC ad cy S ++ X) := by
  refine CT.mk (cc := cX8_slot) (maxL := 4) (ret := (some .int)) (own := RX8) (by decide) rfl rfl (Nat.le_of_ble_eq_true rfl) ?_
  intro p e s m args below meth c ls A Q hA hQ hC hr hk hW hl
  have hx := hC.1
  have hb := hC.2.1
  have hown := hC.2.2.2.1
  have hts := hC.2.2.2.2
  have hl : lv_has ls 4 [(0, .ref (ad 0)), (1, .int p0), (2, .int p1)] := hl
  have f28 := hts _ (wu_in w_2_0)
  have i8 := (fun w h => wu_in (inc_8 w h) : ∀ w ∈ u_ws RX8 TX8 12, w ∈ (wu yX8_slot cX8_slot 4 (some .int)))
  unfold m_X8_slot at h
  refine lv_aload_n hx hb dX8_slot_0 rfl (lv_at hl 0 rfl) ?_
  refine lv_iload_n hx hb dX8_slot_1 rfl (lv_at hl 1 rfl) ?_
  obtain ⟨r1, hr2, h⟩ := bd_of h
  refine wd_callV1 (As := [.int p0]) hC hW 0 wC_c0 rfl (c_X8_isLifter l D cy ad X S p0 r1 hr2) (cwV 1 hts (gu_V w_13_9 w_13_6 w_13_7 w_13_8 w_1_2) rfl rfl rfl hdX8_isLifter ⟨Nat.le_of_ble_eq_true rfl, Nat.le_of_ble_eq_true rfl⟩) rfl hl.1 rfl (Nat.le_of_ble_eq_true rfl) ⟨Nat.zero_le _, Nat.zero_le _⟩ dX8_slot_2 (fun H locs hW => ?_)
  refine lv_if_eq (tgt := 12) hx hb dX8_slot_5 (by decide) (fun c3 => ?_) (fun c3 => ?_)
  · replace h := ite_t h c3
    refine lv_iconst (v := (-1)) hx hb dX8_slot_12 (by decide) ?_
    obtain rfl := Option.some.inj h
    exact wd_iret hA hQ hC hr hk hW dX8_slot_13
  · replace h := ite_f h c3
    refine lv_iload_n hx hb dX8_slot_8 rfl (lv_at hl 2 rfl) ?_
    refine lv_if_ge (tgt := 14) hx hb dX8_slot_9 (by decide) (fun c4 => ?_) (fun c4 => ?_)
    · replace h := ite_t h c4
      refine lv_aload_n hx hb dX8_slot_14 rfl (lv_at hl 0 rfl) ?_
      refine wd_get hC i8 hW 0 wC_c0 rfl 2 (Nat.le_of_ble_eq_true rfl) f28 rfl rfl dX8_slot_15 ?_
      refine lv_iload_n hx hb dX8_slot_18 rfl (lv_at hl 1 rfl) ?_
      obtain ⟨r5, hr6, h⟩ := bd_of h
      refine wd_callV1 (As := [.int p0]) hC hW 25 wC_c25 rfl (c_X4_waitsM l D cy ad X S p0 r5 hr6) (cwV 1 hts (gu_V w_16_23 w_16_20 w_16_21 w_16_22 w_1_23) rfl rfl rfl hdX4_waits ⟨Nat.le_of_ble_eq_true rfl, Nat.le_of_ble_eq_true rfl⟩) rfl hl.1 rfl (Nat.le_of_ble_eq_true rfl) ⟨Nat.zero_le _, Nat.zero_le _⟩ dX8_slot_19 (fun H locs hW => ?_)
      refine lv_if_ne (tgt := 28) hx hb dX8_slot_22 (by decide) (fun c7 => ?_) (fun c7 => ?_)
      · replace h := ite_f h c7
        refine lv_aload_n hx hb dX8_slot_28 rfl (lv_at hl 0 rfl) ?_
        refine wd_get hC i8 hW 0 wC_c0 rfl 2 (Nat.le_of_ble_eq_true rfl) f28 rfl rfl dX8_slot_29 ?_
        refine lv_iload_n hx hb dX8_slot_32 rfl (lv_at hl 1 rfl) ?_
        obtain ⟨r8, hr9, h⟩ := bd_of h
        refine wd_callV1 (As := [.int p0]) hC hW 25 wC_c25 rfl (c_X4_leastOfM l D cy ad X S p0 r8 hr9) (cwV 1 hts (gu_V w_16_18 w_16_15 w_16_16 w_16_17 w_1_23) rfl rfl rfl hdX4_leastOf ⟨Nat.le_of_ble_eq_true rfl, Nat.le_of_ble_eq_true rfl⟩) rfl hl.1 rfl (Nat.le_of_ble_eq_true rfl) ⟨Nat.zero_le _, Nat.zero_le _⟩ dX8_slot_33 (fun H locs hW => ?_)
        refine lv_istore_n (lv' := [(3, .int r8), (0, .ref (ad 0)), (1, .int p0), (2, .int p1)]) hx hb dX8_slot_36 rfl hl (by decide) rfl (fun ls hl => ?_)
        have hL37 : ∀ (n : Nat) (x1 : Int32) (x2 : Int32) (x3 : Int32)  (H : Heap) (locs : List Loc) (ls : Array Slot), m_X8_slot_L37 n S x1 x2 x3 = some r → Wd D cy A s (wC ad cy S ++ X) H locs → lv_has ls 4 [(0, .ref (ad 0)), (1, .int x1), (2, .int x2), (3, .int x3)] → W p l e (RM 2) s m args below meth c H locs 0 0 Q (F0 m 37 ls []) := by
          intro n
          induction n with
          | zero =>
            intro x1 x2 x3  H locs ls h
            exact absurd (h.symm.trans (m_X8_slot_L37_0 ..)) (by simp)
          | succ n ih =>
            intro x1 x2 x3  H locs ls h hW hl
            rw [m_X8_slot_L37_s] at h
            refine lv_iload_n hx hb dX8_slot_37 rfl (lv_at hl 3 rfl) ?_
            refine lv_bipush (v := 40) hx hb dX8_slot_38 (by decide) ?_
            refine lv_icmp_gt (tgt := 64) hx hb dX8_slot_40 (by decide) (fun c10 => ?_) (fun c10 => ?_)
            · replace h := ite_t h c10
              refine lv_bipush (v := (-3)) hx hb dX8_slot_64 (by decide) ?_
              obtain rfl := Option.some.inj h
              exact wd_iret hA hQ hC hr hk hW dX8_slot_66
            · replace h := ite_f h c10
              refine lv_aload_n hx hb dX8_slot_43 rfl (lv_at hl 0 rfl) ?_
              refine wd_get hC i8 hW 0 wC_c0 rfl 2 (Nat.le_of_ble_eq_true rfl) f28 rfl rfl dX8_slot_44 ?_
              refine lv_iload_n hx hb dX8_slot_47 rfl (lv_at hl 1 rfl) ?_
              refine lv_iload_n hx hb dX8_slot_48 rfl (lv_at hl 3 rfl) ?_
              obtain ⟨r11, hr12, h⟩ := bd_of h
              refine wd_callV1 (As := [.int x1, .int x3]) hC hW 25 wC_c25 rfl (c_X4_soonerM l D cy ad X n S x1 x3 r11 hr12) (cwV 2 hts (gu_V w_18_11 w_19_19 w_18_9 w_18_10 w_1_23) rfl rfl rfl hdX4_sooner ⟨Nat.le_of_ble_eq_true rfl, Nat.le_of_ble_eq_true rfl⟩) rfl hl.1 rfl (Nat.le_of_ble_eq_true rfl) ⟨Nat.zero_le _, Nat.zero_le _⟩ dX8_slot_49 (fun H locs hW => ?_)
              refine lv_iload_n hx hb dX8_slot_52 rfl (lv_at hl 2 rfl) ?_
              refine lv_icmp_ne (tgt := 58) hx hb dX8_slot_53 (by decide) (fun c13 => ?_) (fun c13 => ?_)
              · replace h := ite_f h c13
                refine lv_iinc (v := x3 + 1) (lv' := [(3, .int (x3 + 1)), (0, .ref (ad 0)), (1, .int x1), (2, .int x2)]) hx hb dX8_slot_58 hl (k := 3) rfl rfl (by decide) rfl (fun ls hl => ?_)
                refine lv_goto (tgt := 37) hx hb dX8_slot_61 (by decide) ?_
                exact ih x1 x2 (x3 + 1) _ _ _ h hW (lv_sub hl [1, 2, 3, 0] rfl)
              · replace h := ite_t h c13
                refine lv_iload_n hx hb dX8_slot_56 rfl (lv_at hl 3 rfl) ?_
                obtain rfl := Option.some.inj h
                exact wd_iret hA hQ hC hr hk hW dX8_slot_57
        exact hL37 n p0 p1 r8  _ _ _ h hW (lv_sub hl [1, 2, 3, 0] rfl)
      · replace h := ite_t h c7
        refine lv_bipush (v := (-2)) hx hb dX8_slot_25 (by decide) ?_
        obtain rfl := Option.some.inj h
        exact wd_iret hA hQ hC hr hk hW dX8_slot_27
    · replace h := ite_f h c4
      refine lv_iconst (v := (-1)) hx hb dX8_slot_12 (by decide) ?_
      obtain rfl := Option.some.inj h
      exact wd_iret hA hQ hC hr hk hW dX8_slot_13
def m_X8_needs_L61 : Nat → St → Int32 → Int32 → Int32 → Option (Int32)
  | 0, _, _, _, _ => none
  | n + 1, S, x1, x2, x3 =>
    if 40 < x3 then (some (-3)) else ((m_X4_wouldLead 30 25 S x1 x3 x2).bind (fun r16 => if r16 = 0 then (m_X8_needs_L61 n S x1 x2 (x3 + 1)) else (some x3)))
theorem m_X8_needs_L61_0 (S : St) (x1 : Int32) (x2 : Int32) (x3 : Int32) : m_X8_needs_L61 0 S x1 x2 x3 = none := rfl
theorem m_X8_needs_L61_s {n : Nat} {S : St} {x1 : Int32} {x2 : Int32} {x3 : Int32} : m_X8_needs_L61 (n + 1) S x1 x2 x3 =
    (if 40 < x3 then (some (-3)) else ((m_X4_wouldLead 30 25 S x1 x3 x2).bind (fun r16 => if r16 = 0 then (m_X8_needs_L61 n S x1 x2 (x3 + 1)) else (some x3)))) := rfl
def m_X8_needs (n : Nat) (S : St) (p0 : Int32) (p1 : Int32) : Option (Int32) :=
  (m_X8_isLifter S p0).bind (fun r1 => if r1 = 0 then (some (-1)) else ((m_X8_isLifter S p1).bind (fun r4 => if r4 = 0 then (some (-1)) else (if p0 = p1 then (some (-1)) else ((m_X4_isAhead 30 25 S p0 p1).bind (fun r8 => if r8 = 0 then (ck p0 6 (if (S.2.1 26 p0.toNatClampNeg) = 0 then (some (-2)) else ((m_X4_leastOf 30 25 S p0).bind (fun r13 => m_X8_needs_L61 n S p0 p1 r13)))) else (some 0)))))))
set_option maxHeartbeats 4000000 in
set_option maxRecDepth 100000 in
theorem c_X8_needs (l : Launch) (D : va_G) (cy : Nat → ClassId) (ad : Nat → Nat) (X : va_W) (n : Nat) (S : St) (p0 : Int32) (p1 : Int32) (r : (Int32)) (h : m_X8_needs n S p0 p1 = some r) : CT l yX8_needs (wu yX8_needs cX8_needs 4 (some .int)) 2 D cy [.ref (ad 0), .int p0, .int p1] (wC ad cy S ++ X) (some (.int r)) (wC ad cy S ++ X) := by
  refine CT.mk (cc := cX8_needs) (maxL := 4) (ret := (some .int)) (own := RX8) (by decide) rfl rfl (Nat.le_of_ble_eq_true rfl) ?_
  intro p e s m args below meth c ls A Q hA hQ hC hr hk hW hl
  have hx := hC.1
  have hb := hC.2.1
  have hown := hC.2.2.2.1
  have hts := hC.2.2.2.2
  have hl : lv_has ls 4 [(0, .ref (ad 0)), (1, .int p0), (2, .int p1)] := hl
  have f28 := hts _ (wu_in w_2_0)
  have i8 := (fun w h => wu_in (inc_8 w h) : ∀ w ∈ u_ws RX8 TX8 12, w ∈ (wu yX8_needs cX8_needs 4 (some .int)))
  have f130 := hts _ (wu_in w_16_12)
  have i4 := (fun w h => wu_in (inc_4 w h) : ∀ w ∈ u_ws RX4 TX4 16, w ∈ (wu yX8_needs cX8_needs 4 (some .int)))
  unfold m_X8_needs at h
  refine lv_aload_n hx hb dX8_needs_0 rfl (lv_at hl 0 rfl) ?_
  refine lv_iload_n hx hb dX8_needs_1 rfl (lv_at hl 1 rfl) ?_
  obtain ⟨r1, hr2, h⟩ := bd_of h
  refine wd_callV1 (As := [.int p0]) hC hW 0 wC_c0 rfl (c_X8_isLifter l D cy ad X S p0 r1 hr2) (cwV 1 hts (gu_V w_13_9 w_13_6 w_13_7 w_13_8 w_1_2) rfl rfl rfl hdX8_isLifter ⟨Nat.le_of_ble_eq_true rfl, Nat.le_of_ble_eq_true rfl⟩) rfl hl.1 rfl (Nat.le_of_ble_eq_true rfl) ⟨Nat.zero_le _, Nat.zero_le _⟩ dX8_needs_2 (fun H locs hW => ?_)
  refine lv_if_eq (tgt := 21) hx hb dX8_needs_5 (by decide) (fun c3 => ?_) (fun c3 => ?_)
  · replace h := ite_t h c3
    refine lv_iconst (v := (-1)) hx hb dX8_needs_21 (by decide) ?_
    obtain rfl := Option.some.inj h
    exact wd_iret hA hQ hC hr hk hW dX8_needs_22
  · replace h := ite_f h c3
    refine lv_aload_n hx hb dX8_needs_8 rfl (lv_at hl 0 rfl) ?_
    refine lv_iload_n hx hb dX8_needs_9 rfl (lv_at hl 2 rfl) ?_
    obtain ⟨r4, hr5, h⟩ := bd_of h
    refine wd_callV1 (As := [.int p1]) hC hW 0 wC_c0 rfl (c_X8_isLifter l D cy ad X S p1 r4 hr5) (cwV 1 hts (gu_V w_13_9 w_13_6 w_13_7 w_13_8 w_1_2) rfl rfl rfl hdX8_isLifter ⟨Nat.le_of_ble_eq_true rfl, Nat.le_of_ble_eq_true rfl⟩) rfl hl.1 rfl (Nat.le_of_ble_eq_true rfl) ⟨Nat.zero_le _, Nat.zero_le _⟩ dX8_needs_10 (fun H locs hW => ?_)
    refine lv_if_eq (tgt := 21) hx hb dX8_needs_13 (by decide) (fun c6 => ?_) (fun c6 => ?_)
    · replace h := ite_t h c6
      refine lv_iconst (v := (-1)) hx hb dX8_needs_21 (by decide) ?_
      obtain rfl := Option.some.inj h
      exact wd_iret hA hQ hC hr hk hW dX8_needs_22
    · replace h := ite_f h c6
      refine lv_iload_n hx hb dX8_needs_16 rfl (lv_at hl 1 rfl) ?_
      refine lv_iload_n hx hb dX8_needs_17 rfl (lv_at hl 2 rfl) ?_
      refine lv_icmp_ne (tgt := 23) hx hb dX8_needs_18 (by decide) (fun c7 => ?_) (fun c7 => ?_)
      · replace h := ite_f h c7
        refine lv_aload_n hx hb dX8_needs_23 rfl (lv_at hl 0 rfl) ?_
        refine wd_get hC i8 hW 0 wC_c0 rfl 2 (Nat.le_of_ble_eq_true rfl) f28 rfl rfl dX8_needs_24 ?_
        refine lv_iload_n hx hb dX8_needs_27 rfl (lv_at hl 1 rfl) ?_
        refine lv_iload_n hx hb dX8_needs_28 rfl (lv_at hl 2 rfl) ?_
        obtain ⟨r8, hr9, h⟩ := bd_of h
        refine wd_callV1 (As := [.int p0, .int p1]) hC hW 25 wC_c25 rfl (c_X4_isAheadM l D cy ad X S p0 p1 r8 hr9) (cwV 2 hts (gu_V w_23_4 w_24_20 w_23_2 w_23_3 w_1_23) rfl rfl rfl hdX4_isAhead ⟨Nat.le_of_ble_eq_true rfl, Nat.le_of_ble_eq_true rfl⟩) rfl hl.1 rfl (Nat.le_of_ble_eq_true rfl) ⟨Nat.zero_le _, Nat.zero_le _⟩ dX8_needs_29 (fun H locs hW => ?_)
        refine lv_if_eq (tgt := 37) hx hb dX8_needs_32 (by decide) (fun c10 => ?_) (fun c10 => ?_)
        · replace h := ite_t h c10
          refine lv_aload_n hx hb dX8_needs_37 rfl (lv_at hl 0 rfl) ?_
          refine wd_get hC i8 hW 0 wC_c0 rfl 2 (Nat.le_of_ble_eq_true rfl) f28 rfl rfl dX8_needs_38 ?_
          refine wd_get hC i4 hW 25 wC_c25 rfl 6 (Nat.le_of_ble_eq_true rfl) f130 rfl rfl dX8_needs_41 ?_
          refine lv_iload_n hx hb dX8_needs_44 rfl (lv_at hl 1 rfl) ?_
          obtain ⟨hi11, h⟩ := ck_of h
          refine wd_iald hC hW 26 wC_c26 hi11 dX8_needs_45 ?_
          refine lv_if_ne (tgt := 52) hx hb dX8_needs_46 (by decide) (fun c12 => ?_) (fun c12 => ?_)
          · replace h := ite_f h c12
            refine lv_aload_n hx hb dX8_needs_52 rfl (lv_at hl 0 rfl) ?_
            refine wd_get hC i8 hW 0 wC_c0 rfl 2 (Nat.le_of_ble_eq_true rfl) f28 rfl rfl dX8_needs_53 ?_
            refine lv_iload_n hx hb dX8_needs_56 rfl (lv_at hl 1 rfl) ?_
            obtain ⟨r13, hr14, h⟩ := bd_of h
            refine wd_callV1 (As := [.int p0]) hC hW 25 wC_c25 rfl (c_X4_leastOfM l D cy ad X S p0 r13 hr14) (cwV 1 hts (gu_V w_16_18 w_16_15 w_16_16 w_16_17 w_1_23) rfl rfl rfl hdX4_leastOf ⟨Nat.le_of_ble_eq_true rfl, Nat.le_of_ble_eq_true rfl⟩) rfl hl.1 rfl (Nat.le_of_ble_eq_true rfl) ⟨Nat.zero_le _, Nat.zero_le _⟩ dX8_needs_57 (fun H locs hW => ?_)
            refine lv_istore_n (lv' := [(3, .int r13), (0, .ref (ad 0)), (1, .int p0), (2, .int p1)]) hx hb dX8_needs_60 rfl hl (by decide) rfl (fun ls hl => ?_)
            have hL61 : ∀ (n : Nat) (x1 : Int32) (x2 : Int32) (x3 : Int32)  (H : Heap) (locs : List Loc) (ls : Array Slot), m_X8_needs_L61 n S x1 x2 x3 = some r → Wd D cy A s (wC ad cy S ++ X) H locs → lv_has ls 4 [(0, .ref (ad 0)), (1, .int x1), (2, .int x2), (3, .int x3)] → W p l e (RM 2) s m args below meth c H locs 0 0 Q (F0 m 61 ls []) := by
              intro n
              induction n with
              | zero =>
                intro x1 x2 x3  H locs ls h
                exact absurd (h.symm.trans (m_X8_needs_L61_0 ..)) (by simp)
              | succ n ih =>
                intro x1 x2 x3  H locs ls h hW hl
                rw [m_X8_needs_L61_s] at h
                refine lv_iload_n hx hb dX8_needs_61 rfl (lv_at hl 3 rfl) ?_
                refine lv_bipush (v := 40) hx hb dX8_needs_62 (by decide) ?_
                refine lv_icmp_gt (tgt := 88) hx hb dX8_needs_64 (by decide) (fun c15 => ?_) (fun c15 => ?_)
                · replace h := ite_t h c15
                  refine lv_bipush (v := (-3)) hx hb dX8_needs_88 (by decide) ?_
                  obtain rfl := Option.some.inj h
                  exact wd_iret hA hQ hC hr hk hW dX8_needs_90
                · replace h := ite_f h c15
                  refine lv_aload_n hx hb dX8_needs_67 rfl (lv_at hl 0 rfl) ?_
                  refine wd_get hC i8 hW 0 wC_c0 rfl 2 (Nat.le_of_ble_eq_true rfl) f28 rfl rfl dX8_needs_68 ?_
                  refine lv_iload_n hx hb dX8_needs_71 rfl (lv_at hl 1 rfl) ?_
                  refine lv_iload_n hx hb dX8_needs_72 rfl (lv_at hl 3 rfl) ?_
                  refine lv_iload_n hx hb dX8_needs_73 rfl (lv_at hl 2 rfl) ?_
                  obtain ⟨r16, hr17, h⟩ := bd_of h
                  refine wd_callV1 (As := [.int x1, .int x3, .int x2]) hC hW 25 wC_c25 rfl (c_X4_wouldLeadM l D cy ad X S x1 x3 x2 r16 hr17) (cwV 3 hts (gu_V w_25_0 w_24_21 w_24_22 w_24_23 w_1_23) rfl rfl rfl hdX4_wouldLead ⟨Nat.le_of_ble_eq_true rfl, Nat.le_of_ble_eq_true rfl⟩) rfl hl.1 rfl (Nat.le_of_ble_eq_true rfl) ⟨Nat.zero_le _, Nat.zero_le _⟩ dX8_needs_74 (fun H locs hW => ?_)
                  refine lv_if_eq (tgt := 82) hx hb dX8_needs_77 (by decide) (fun c18 => ?_) (fun c18 => ?_)
                  · replace h := ite_t h c18
                    refine lv_iinc (v := x3 + 1) (lv' := [(3, .int (x3 + 1)), (0, .ref (ad 0)), (1, .int x1), (2, .int x2)]) hx hb dX8_needs_82 hl (k := 3) rfl rfl (by decide) rfl (fun ls hl => ?_)
                    refine lv_goto (tgt := 61) hx hb dX8_needs_85 (by decide) ?_
                    exact ih x1 x2 (x3 + 1) _ _ _ h hW (lv_sub hl [1, 2, 3, 0] rfl)
                  · replace h := ite_f h c18
                    refine lv_iload_n hx hb dX8_needs_80 rfl (lv_at hl 3 rfl) ?_
                    obtain rfl := Option.some.inj h
                    exact wd_iret hA hQ hC hr hk hW dX8_needs_81
            exact hL61 n p0 p1 r13  _ _ _ h hW (lv_sub hl [1, 2, 3, 0] rfl)
          · replace h := ite_t h c12
            refine lv_bipush (v := (-2)) hx hb dX8_needs_49 (by decide) ?_
            obtain rfl := Option.some.inj h
            exact wd_iret hA hQ hC hr hk hW dX8_needs_51
        · replace h := ite_f h c10
          refine lv_iconst (v := 0) hx hb dX8_needs_35 (by decide) ?_
          obtain rfl := Option.some.inj h
          exact wd_iret hA hQ hC hr hk hW dX8_needs_36
      · replace h := ite_t h c7
        refine lv_iconst (v := (-1)) hx hb dX8_needs_21 (by decide) ?_
        obtain rfl := Option.some.inj h
        exact wd_iret hA hQ hC hr hk hW dX8_needs_22
def m_X8_opener_L31 : Nat → St → Int32 → Int32 → Int32 → Int32 → Option (Int32)
  | 0, _, _, _, _, _ => none
  | n + 1, S, x1, x2, x3, x4 =>
    if x4 < 1 then (some (-2)) else ((m_X8_allFail n S x1 x2 x4 0).bind (fun r10 => if x3 < r10 then (m_X8_opener_L31 n S x1 x2 x3 (x4 + (-1))) else (some x4)))
theorem m_X8_opener_L31_0 (S : St) (x1 : Int32) (x2 : Int32) (x3 : Int32) (x4 : Int32) : m_X8_opener_L31 0 S x1 x2 x3 x4 = none := rfl
theorem m_X8_opener_L31_s {n : Nat} {S : St} {x1 : Int32} {x2 : Int32} {x3 : Int32} {x4 : Int32} : m_X8_opener_L31 (n + 1) S x1 x2 x3 x4 =
    (if x4 < 1 then (some (-2)) else ((m_X8_allFail n S x1 x2 x4 0).bind (fun r10 => if x3 < r10 then (m_X8_opener_L31 n S x1 x2 x3 (x4 + (-1))) else (some x4)))) := rfl
def m_X8_opener (n : Nat) (S : St) (p0 : Int32) (p1 : Int32) (p2 : Int32) : Option (Int32) :=
  (m_X8_isLifter S p0).bind (fun r1 => if r1 = 0 then (some (-1)) else ((m_X8_isLift S p1).bind (fun r4 => if r4 = 0 then (some (-1)) else (if p2 < 0 then (some (-1)) else (if p2 ≤ 1000000 then (m_X8_opener_L31 n S p0 p1 p2 40) else (some (-1)))))))
set_option maxHeartbeats 4000000 in
set_option maxRecDepth 100000 in
theorem c_X8_opener (l : Launch) (D : va_G) (cy : Nat → ClassId) (ad : Nat → Nat) (X : va_W) (n : Nat) (S : St) (p0 : Int32) (p1 : Int32) (p2 : Int32) (r : (Int32)) (h : m_X8_opener n S p0 p1 p2 = some r) : CT l yX8_opener (wu yX8_opener cX8_opener 5 (some .int)) 3 D cy [.ref (ad 0), .int p0, .int p1, .int p2] (wC ad cy S ++ X) (some (.int r)) (wC ad cy S ++ X) := by
  refine CT.mk (cc := cX8_opener) (maxL := 5) (ret := (some .int)) (own := RX8) (by decide) rfl rfl (Nat.le_of_ble_eq_true rfl) ?_
  intro p e s m args below meth c ls A Q hA hQ hC hr hk hW hl
  have hx := hC.1
  have hb := hC.2.1
  have hown := hC.2.2.2.1
  have hts := hC.2.2.2.2
  have hl : lv_has ls 5 [(0, .ref (ad 0)), (1, .int p0), (2, .int p1), (3, .int p2)] := hl
  have k213 := hts _ (wu_in w_30_22)
  unfold m_X8_opener at h
  refine lv_aload_n hx hb dX8_opener_0 rfl (lv_at hl 0 rfl) ?_
  refine lv_iload_n hx hb dX8_opener_1 rfl (lv_at hl 1 rfl) ?_
  obtain ⟨r1, hr2, h⟩ := bd_of h
  refine wd_callV1 (As := [.int p0]) hC hW 0 wC_c0 rfl (c_X8_isLifter l D cy ad X S p0 r1 hr2) (cwV 1 hts (gu_V w_13_9 w_13_6 w_13_7 w_13_8 w_1_2) rfl rfl rfl hdX8_isLifter ⟨Nat.le_of_ble_eq_true rfl, Nat.le_of_ble_eq_true rfl⟩) rfl hl.1 rfl (Nat.le_of_ble_eq_true rfl) ⟨Nat.zero_le _, Nat.zero_le _⟩ dX8_opener_2 (fun H locs hW => ?_)
  refine lv_if_eq (tgt := 25) hx hb dX8_opener_5 (by decide) (fun c3 => ?_) (fun c3 => ?_)
  · replace h := ite_t h c3
    refine lv_iconst (v := (-1)) hx hb dX8_opener_25 (by decide) ?_
    obtain rfl := Option.some.inj h
    exact wd_iret hA hQ hC hr hk hW dX8_opener_26
  · replace h := ite_f h c3
    refine lv_iload_n hx hb dX8_opener_8 rfl (lv_at hl 2 rfl) ?_
    obtain ⟨r4, hr5, h⟩ := bd_of h
    refine wd_callS1 (As := [.int p1]) hC hW (c_X8_isLift l D cy ad X S p1 r4 hr5) (va_cwS 1 hts (gu_S w_13_12 w_13_10 w_13_11 w_1_2) rfl rfl rfl hdX8_isLift ⟨Nat.le_of_ble_eq_true rfl, Nat.le_of_ble_eq_true rfl⟩) rfl hl.1 rfl (Nat.le_of_ble_eq_true rfl) ⟨Nat.zero_le _, Nat.zero_le _⟩ dX8_opener_9 (fun H locs hW => ?_)
    refine lv_if_eq (tgt := 25) hx hb dX8_opener_12 (by decide) (fun c6 => ?_) (fun c6 => ?_)
    · replace h := ite_t h c6
      refine lv_iconst (v := (-1)) hx hb dX8_opener_25 (by decide) ?_
      obtain rfl := Option.some.inj h
      exact wd_iret hA hQ hC hr hk hW dX8_opener_26
    · replace h := ite_f h c6
      refine lv_iload_n hx hb dX8_opener_15 rfl (lv_at hl 3 rfl) ?_
      refine lv_if_lt (tgt := 25) hx hb dX8_opener_16 (by decide) (fun c7 => ?_) (fun c7 => ?_)
      · replace h := ite_t h c7
        refine lv_iconst (v := (-1)) hx hb dX8_opener_25 (by decide) ?_
        obtain rfl := Option.some.inj h
        exact wd_iret hA hQ hC hr hk hW dX8_opener_26
      · replace h := ite_f h c7
        refine lv_iload_n hx hb dX8_opener_19 rfl (lv_at hl 3 rfl) ?_
        refine lv_ldc hx hb hown k213 dX8_opener_20 ?_
        refine lv_icmp_le (tgt := 27) hx hb dX8_opener_22 (by decide) (fun c8 => ?_) (fun c8 => ?_)
        · replace h := ite_t h c8
          refine lv_bipush (v := 40) hx hb dX8_opener_27 (by decide) ?_
          refine lv_istore (lv' := [(4, .int 40), (0, .ref (ad 0)), (1, .int p0), (2, .int p1), (3, .int p2)]) hx hb dX8_opener_29 hl (by decide) rfl (fun ls hl => ?_)
          have hL31 : ∀ (n : Nat) (x1 : Int32) (x2 : Int32) (x3 : Int32) (x4 : Int32)  (H : Heap) (locs : List Loc) (ls : Array Slot), m_X8_opener_L31 n S x1 x2 x3 x4 = some r → Wd D cy A s (wC ad cy S ++ X) H locs → lv_has ls 5 [(0, .ref (ad 0)), (1, .int x1), (2, .int x2), (3, .int x3), (4, .int x4)] → W p l e (RM 3) s m args below meth c H locs 0 0 Q (F0 m 31 ls []) := by
            intro n
            induction n with
            | zero =>
              intro x1 x2 x3 x4  H locs ls h
              exact absurd (h.symm.trans (m_X8_opener_L31_0 ..)) (by simp)
            | succ n ih =>
              intro x1 x2 x3 x4  H locs ls h hW hl
              rw [m_X8_opener_L31_s] at h
              refine lv_iload hx hb dX8_opener_31 (lv_at hl 4 rfl) ?_
              refine lv_iconst (v := 1) hx hb dX8_opener_33 (by decide) ?_
              refine lv_icmp_lt (tgt := 59) hx hb dX8_opener_34 (by decide) (fun c9 => ?_) (fun c9 => ?_)
              · replace h := ite_t h c9
                refine lv_bipush (v := (-2)) hx hb dX8_opener_59 (by decide) ?_
                obtain rfl := Option.some.inj h
                exact wd_iret hA hQ hC hr hk hW dX8_opener_61
              · replace h := ite_f h c9
                refine lv_aload_n hx hb dX8_opener_37 rfl (lv_at hl 0 rfl) ?_
                refine lv_iload_n hx hb dX8_opener_38 rfl (lv_at hl 1 rfl) ?_
                refine lv_iload_n hx hb dX8_opener_39 rfl (lv_at hl 2 rfl) ?_
                refine lv_iload hx hb dX8_opener_40 (lv_at hl 4 rfl) ?_
                refine lv_iconst (v := 0) hx hb dX8_opener_42 (by decide) ?_
                obtain ⟨r10, hr11, h⟩ := bd_of h
                refine wd_callV1 (As := [.int x1, .int x2, .int x4, .int 0]) hC hW 0 wC_c0 rfl (c_X8_allFail l D cy ad X n S x1 x2 x4 0 r10 hr11) (cwV 4 hts (gu_V w_33_23 w_33_20 w_33_21 w_33_22 w_1_2) rfl rfl rfl hdX8_allFail ⟨Nat.le_of_ble_eq_true rfl, Nat.le_of_ble_eq_true rfl⟩) rfl hl.1 rfl (Nat.le_of_ble_eq_true rfl) ⟨Nat.zero_le _, Nat.zero_le _⟩ dX8_opener_43 (fun H locs hW => ?_)
                refine lv_iload_n hx hb dX8_opener_46 rfl (lv_at hl 3 rfl) ?_
                refine lv_icmp_gt (tgt := 53) hx hb dX8_opener_47 (by decide) (fun c12 => ?_) (fun c12 => ?_)
                · replace h := ite_t h c12
                  refine lv_iinc (v := x4 + (-1)) (lv' := [(4, .int (x4 + (-1))), (0, .ref (ad 0)), (1, .int x1), (2, .int x2), (3, .int x3)]) hx hb dX8_opener_53 hl (k := 4) rfl rfl (by decide) rfl (fun ls hl => ?_)
                  refine lv_goto (tgt := 31) hx hb dX8_opener_56 (by decide) ?_
                  exact ih x1 x2 x3 (x4 + (-1)) _ _ _ h hW (lv_sub hl [1, 2, 3, 4, 0] rfl)
                · replace h := ite_f h c12
                  refine lv_iload hx hb dX8_opener_50 (lv_at hl 4 rfl) ?_
                  obtain rfl := Option.some.inj h
                  exact wd_iret hA hQ hC hr hk hW dX8_opener_52
          exact hL31 n p0 p1 p2 40  _ _ _ h hW (lv_sub hl [1, 2, 3, 4, 0] rfl)
        · replace h := ite_f h c8
          refine lv_iconst (v := (-1)) hx hb dX8_opener_25 (by decide) ?_
          obtain rfl := Option.some.inj h
          exact wd_iret hA hQ hC hr hk hW dX8_opener_26
def m_X8_plays (n : Nat) (S : St) (p0 : Int32) : Option (Int32 × St) :=
  (m_X4_next 30 25 n S).bind (fun r1 => if 0 ≤ r1 then ((m_X4_drawOn 30 25 n S p0).bind (fun r4 => (m_X8_tellPlaces n r4.2).bind (fun r6 => some ((r6.1 35) - (S.1 35), r6)))) else (some ((-2), S)))
set_option maxHeartbeats 4000000 in
set_option maxRecDepth 100000 in
theorem c_X8_plays (l : Launch) (D : va_G) (cy : Nat → ClassId) (ad : Nat → Nat) (X : va_W) (n : Nat) (S : St) (p0 : Int32) (r : (Int32 × St)) (h : m_X8_plays n S p0 = some r) : CT l yX8_plays (wu yX8_plays cX8_plays 3 (some .int)) 5 D cy [.ref (ad 0), .int p0] (wC ad cy S ++ X) (some (.int r.1)) (wC ad cy r.2 ++ X) := by
  refine CT.mk (cc := cX8_plays) (maxL := 3) (ret := (some .int)) (own := RX8) (by decide) rfl rfl (Nat.le_of_ble_eq_true rfl) ?_
  intro p e s m args below meth c ls A Q hA hQ hC hr hk hW hl
  have hx := hC.1
  have hb := hC.2.1
  have hown := hC.2.2.2.1
  have hts := hC.2.2.2.2
  have hl : lv_has ls 3 [(0, .ref (ad 0)), (1, .int p0)] := hl
  have f28 := hts _ (wu_in w_2_0)
  have i8 := (fun w h => wu_in (inc_8 w h) : ∀ w ∈ u_ws RX8 TX8 12, w ∈ (wu yX8_plays cX8_plays 3 (some .int)))
  have f172 := hts _ (wu_in w_22_6)
  have i4 := (fun w h => wu_in (inc_4 w h) : ∀ w ∈ u_ws RX4 TX4 16, w ∈ (wu yX8_plays cX8_plays 3 (some .int)))
  unfold m_X8_plays at h
  refine lv_aload_n hx hb dX8_plays_0 rfl (lv_at hl 0 rfl) ?_
  refine wd_get hC i8 hW 0 wC_c0 rfl 2 (Nat.le_of_ble_eq_true rfl) f28 rfl rfl dX8_plays_1 ?_
  obtain ⟨r1, hr2, h⟩ := bd_of h
  refine wd_callV1 (As := []) hC hW 25 wC_c25 rfl (c_X4_nextM l D cy ad X n S r1 hr2) (cwV 0 hts (gu_V w_18_6 w_18_3 w_18_4 w_18_5 w_1_23) rfl rfl rfl hdX4_next ⟨Nat.le_of_ble_eq_true rfl, Nat.le_of_ble_eq_true rfl⟩) rfl hl.1 rfl (Nat.le_of_ble_eq_true rfl) ⟨Nat.zero_le _, Nat.zero_le _⟩ dX8_plays_4 (fun H locs hW => ?_)
  refine lv_if_ge (tgt := 13) hx hb dX8_plays_7 (by decide) (fun c3 => ?_) (fun c3 => ?_)
  · replace h := ite_t h c3
    refine lv_aload_n hx hb dX8_plays_13 rfl (lv_at hl 0 rfl) ?_
    refine wd_get hC i8 hW 0 wC_c0 rfl 2 (Nat.le_of_ble_eq_true rfl) f28 rfl rfl dX8_plays_14 ?_
    refine wd_get hC i4 hW 25 wC_c25 rfl 14 (Nat.le_of_ble_eq_true rfl) f172 rfl rfl dX8_plays_17 ?_
    refine lv_istore_n (lv' := [(2, .int (S.1 35)), (0, .ref (ad 0)), (1, .int p0)]) hx hb dX8_plays_20 rfl hl (by decide) rfl (fun ls hl => ?_)
    refine lv_aload_n hx hb dX8_plays_21 rfl (lv_at hl 1 rfl) ?_
    refine wd_get hC i8 hW 0 wC_c0 rfl 2 (Nat.le_of_ble_eq_true rfl) f28 rfl rfl dX8_plays_22 ?_
    refine lv_iload_n hx hb dX8_plays_25 rfl (lv_at hl 2 rfl) ?_
    obtain ⟨r4, hr5, h⟩ := bd_of h
    refine wd_callV1 (As := [.int p0]) hC hW 25 wC_c25 rfl (c_X4_drawOnM l D cy ad X n S p0 r4 hr5) (cwV 1 hts (gu_V w_49_3 w_49_0 w_49_1 w_49_2 w_1_23) rfl rfl rfl hdX4_drawOn ⟨Nat.le_of_ble_eq_true rfl, Nat.le_of_ble_eq_true rfl⟩) rfl hl.1 rfl (Nat.le_of_ble_eq_true rfl) ⟨Nat.zero_le _, Nat.zero_le _⟩ dX8_plays_26 (fun H locs hW => ?_)
    refine lv_pop hx hb dX8_plays_29 rfl ?_
    refine lv_aload_n hx hb dX8_plays_30 rfl (lv_at hl 1 rfl) ?_
    obtain ⟨r6, hr7, h⟩ := bd_of h
    refine wd_callV0 (As := []) hC hW 0 wC_c0 rfl (c_X8_tellPlaces l D cy ad X n r4.2 r6 hr7) (cwV 0 hts (gu_V w_22_20 w_22_17 w_22_18 w_22_19 w_1_2) rfl rfl rfl hdX8_tellPlaces ⟨Nat.le_of_ble_eq_true rfl, Nat.le_of_ble_eq_true rfl⟩) rfl hl.1 rfl (Nat.le_of_ble_eq_true rfl) ⟨Nat.zero_le _, Nat.zero_le _⟩ dX8_plays_31 (fun H locs hW => ?_)
    refine lv_aload_n hx hb dX8_plays_34 rfl (lv_at hl 1 rfl) ?_
    refine wd_get hC i8 hW 0 wC_c0 rfl 2 (Nat.le_of_ble_eq_true rfl) f28 rfl rfl dX8_plays_35 ?_
    refine wd_get hC i4 hW 25 wC_c25 rfl 14 (Nat.le_of_ble_eq_true rfl) f172 rfl rfl dX8_plays_38 ?_
    refine lv_iload_n hx hb dX8_plays_41 rfl (lv_at hl 0 rfl) ?_
    refine lv_isub hx hb dX8_plays_42 ?_
    obtain rfl := Option.some.inj h
    exact wd_iret hA hQ hC hr hk hW dX8_plays_43
  · replace h := ite_f h c3
    refine lv_bipush (v := (-2)) hx hb dX8_plays_10 (by decide) ?_
    obtain rfl := Option.some.inj h
    exact wd_iret hA hQ hC hr hk hW dX8_plays_12
def m_X8_often_L36 : Nat → St → Int32 → Int32 → Int32 → Int32 → Int32 → Int32 → Int32 → Option (St × Int32 × Int32 × Int32)
  | 0, _, _, _, _, _, _, _, _ => none
  | n + 1, S, x1, x2, x4, x5, x6, x7, x8 =>
    if x2 ≤ x8 then (some (S, x5, x6, x7)) else ((m_X4_copy n S).bind (fun r9 => (m_X4_drawOn 40 34 n r9 x4).bind (fun r11 => ck x1 6 (((if (r11.2.2.1 38 x1.toNatClampNeg) = 0 then ((m_X4_placeOf 40 34 n r11.2 x1).bind (fun r19 => if r19 = 0 then (some (x5 + 1, x6)) else (some (x5, x6)))) else (some (x5, x6 + 1)) : Option (Int32 × Int32))).bind (fun q15 => (m_X4_sumOf 40 34 r11.2 x1).bind (fun r17 => m_X8_often_L36 n r11.2 x1 x2 r11.1 q15.1 q15.2 (x7 + r17) (x8 + 1)))))))
theorem m_X8_often_L36_0 (S : St) (x1 : Int32) (x2 : Int32) (x4 : Int32) (x5 : Int32) (x6 : Int32) (x7 : Int32) (x8 : Int32) : m_X8_often_L36 0 S x1 x2 x4 x5 x6 x7 x8 = none := rfl
theorem m_X8_often_L36_s {n : Nat} {S : St} {x1 : Int32} {x2 : Int32} {x4 : Int32} {x5 : Int32} {x6 : Int32} {x7 : Int32} {x8 : Int32} : m_X8_often_L36 (n + 1) S x1 x2 x4 x5 x6 x7 x8 =
    (if x2 ≤ x8 then (some (S, x5, x6, x7)) else ((m_X4_copy n S).bind (fun r9 => (m_X4_drawOn 40 34 n r9 x4).bind (fun r11 => ck x1 6 (((if (r11.2.2.1 38 x1.toNatClampNeg) = 0 then ((m_X4_placeOf 40 34 n r11.2 x1).bind (fun r19 => if r19 = 0 then (some (x5 + 1, x6)) else (some (x5, x6)))) else (some (x5, x6 + 1)) : Option (Int32 × Int32))).bind (fun q15 => (m_X4_sumOf 40 34 r11.2 x1).bind (fun r17 => m_X8_often_L36 n r11.2 x1 x2 r11.1 q15.1 q15.2 (x7 + r17) (x8 + 1)))))))) := rfl
def m_X8_often (n : Nat) (S : St) (p0 : Int32) (p1 : Int32) (p2 : Int32) : Option (Int32 × St) :=
  (m_X8_isLifter S p0).bind (fun r1 => if r1 = 0 then (some ((-1), S)) else (if p1 < 1 then (some ((-1), S)) else (if p1 ≤ 50 then ((m_X8_often_L36 n S p0 p1 p2 0 0 0 0).bind (fun q6 => (m_X8_tellTwo q6.1 q6.2.2.1 q6.2.2.2).bind (fun r22 => some (q6.2.1, r22)))) else (some ((-1), S)))))
set_option maxHeartbeats 4000000 in
set_option maxRecDepth 100000 in
theorem c_X8_often (l : Launch) (D : va_G) (cy : Nat → ClassId) (ad : Nat → Nat) (X : va_W) (n : Nat) (S : St) (p0 : Int32) (p1 : Int32) (p2 : Int32) (r : (Int32 × St)) (h : m_X8_often n S p0 p1 p2 = some r) : CT l yX8_often (wu yX8_often cX8_often 9 (some .int)) 5 D cy [.ref (ad 0), .int p0, .int p1, .int p2] (wC ad cy S ++ X) (some (.int r.1)) (wC ad cy r.2 ++ X) := by
  refine CT.mk (cc := cX8_often) (maxL := 9) (ret := (some .int)) (own := RX8) (by decide) rfl rfl (Nat.le_of_ble_eq_true rfl) ?_
  intro p e s m args below meth c ls A Q hA hQ hC hr hk hW hl
  have hx := hC.1
  have hb := hC.2.1
  have hown := hC.2.2.2.1
  have hts := hC.2.2.2.2
  have hl : lv_has ls 9 [(0, .ref (ad 0)), (1, .int p0), (2, .int p1), (3, .int p2)] := hl
  have f32 := hts _ (wu_in w_2_1)
  have i8 := (fun w h => wu_in (inc_8 w h) : ∀ w ∈ u_ws RX8 TX8 12, w ∈ (wu yX8_often cX8_often 9 (some .int)))
  have f28 := hts _ (wu_in w_2_0)
  have f143 := hts _ (wu_in w_16_14)
  have i4 := (fun w h => wu_in (inc_4 w h) : ∀ w ∈ u_ws RX4 TX4 16, w ∈ (wu yX8_often cX8_often 9 (some .int)))
  unfold m_X8_often at h
  refine lv_aload_n hx hb dX8_often_0 rfl (lv_at hl 0 rfl) ?_
  refine lv_iload_n hx hb dX8_often_1 rfl (lv_at hl 1 rfl) ?_
  obtain ⟨r1, hr2, h⟩ := bd_of h
  refine wd_callV1 (As := [.int p0]) hC hW 0 wC_c0 rfl (c_X8_isLifter l D cy ad X S p0 r1 hr2) (cwV 1 hts (gu_V w_13_9 w_13_6 w_13_7 w_13_8 w_1_2) rfl rfl rfl hdX8_isLifter ⟨Nat.le_of_ble_eq_true rfl, Nat.le_of_ble_eq_true rfl⟩) rfl hl.1 rfl (Nat.le_of_ble_eq_true rfl) ⟨Nat.zero_le _, Nat.zero_le _⟩ dX8_often_2 (fun H locs hW => ?_)
  refine lv_if_eq (tgt := 19) hx hb dX8_often_5 (by decide) (fun c3 => ?_) (fun c3 => ?_)
  · replace h := ite_t h c3
    refine lv_iconst (v := (-1)) hx hb dX8_often_19 (by decide) ?_
    obtain rfl := Option.some.inj h
    exact wd_iret hA hQ hC hr hk hW dX8_often_20
  · replace h := ite_f h c3
    refine lv_iload_n hx hb dX8_often_8 rfl (lv_at hl 2 rfl) ?_
    refine lv_iconst (v := 1) hx hb dX8_often_9 (by decide) ?_
    refine lv_icmp_lt (tgt := 19) hx hb dX8_often_10 (by decide) (fun c4 => ?_) (fun c4 => ?_)
    · replace h := ite_t h c4
      refine lv_iconst (v := (-1)) hx hb dX8_often_19 (by decide) ?_
      obtain rfl := Option.some.inj h
      exact wd_iret hA hQ hC hr hk hW dX8_often_20
    · replace h := ite_f h c4
      refine lv_iload_n hx hb dX8_often_13 rfl (lv_at hl 2 rfl) ?_
      refine lv_bipush (v := 50) hx hb dX8_often_14 (by decide) ?_
      refine lv_icmp_le (tgt := 21) hx hb dX8_often_16 (by decide) (fun c5 => ?_) (fun c5 => ?_)
      · replace h := ite_t h c5
        refine lv_iload_n hx hb dX8_often_21 rfl (lv_at hl 3 rfl) ?_
        refine lv_istore (lv' := [(4, .int p2), (0, .ref (ad 0)), (1, .int p0), (2, .int p1), (3, .int p2)]) hx hb dX8_often_22 hl (by decide) rfl (fun ls hl => ?_)
        refine lv_iconst (v := 0) hx hb dX8_often_24 (by decide) ?_
        refine lv_istore (lv' := [(5, .int 0), (4, .int p2), (0, .ref (ad 0)), (1, .int p0), (2, .int p1), (3, .int p2)]) hx hb dX8_often_25 hl (by decide) rfl (fun ls hl => ?_)
        refine lv_iconst (v := 0) hx hb dX8_often_27 (by decide) ?_
        refine lv_istore (lv' := [(6, .int 0), (5, .int 0), (4, .int p2), (0, .ref (ad 0)), (1, .int p0), (2, .int p1), (3, .int p2)]) hx hb dX8_often_28 hl (by decide) rfl (fun ls hl => ?_)
        refine lv_iconst (v := 0) hx hb dX8_often_30 (by decide) ?_
        refine lv_istore (lv' := [(7, .int 0), (6, .int 0), (5, .int 0), (4, .int p2), (0, .ref (ad 0)), (1, .int p0), (2, .int p1), (3, .int p2)]) hx hb dX8_often_31 hl (by decide) rfl (fun ls hl => ?_)
        refine lv_iconst (v := 0) hx hb dX8_often_33 (by decide) ?_
        refine lv_istore (lv' := [(8, .int 0), (7, .int 0), (6, .int 0), (5, .int 0), (4, .int p2), (0, .ref (ad 0)), (1, .int p0), (2, .int p1), (3, .int p2)]) hx hb dX8_often_34 hl (by decide) rfl (fun ls hl => ?_)
        have hL36 : ∀ (n : Nat) (S : St) (x1 : Int32) (x2 : Int32) (x4 : Int32) (x5 : Int32) (x6 : Int32) (x7 : Int32) (x8 : Int32)  (H : Heap) (locs : List Loc) (ls : Array Slot) (r : (St × Int32 × Int32 × Int32)), m_X8_often_L36 n S x1 x2 x4 x5 x6 x7 x8 = some r → Wd D cy A s (wC ad cy S ++ X) H locs → lv_has ls 9 [(0, .ref (ad 0)), (1, .int x1), (2, .int x2), (4, .int x4), (5, .int x5), (6, .int x6), (7, .int x7), (8, .int x8)] → (∀ (H : Heap) (locs : List Loc) (ls : Array Slot), Wd D cy A s (wC ad cy r.1 ++ X) H locs → lv_has ls 9 [(0, .ref (ad 0)), (1, .int x1), (2, .int x2), (5, .int r.2.1), (6, .int r.2.2.1), (7, .int r.2.2.2)] → W p l e (RM 5) s m args below meth c H locs 0 0 Q (F0 m 115 ls [])) → W p l e (RM 5) s m args below meth c H locs 0 0 Q (F0 m 36 ls []) := by
          intro n
          induction n with
          | zero =>
            intro S x1 x2 x4 x5 x6 x7 x8  H locs ls r h
            exact absurd (h.symm.trans (m_X8_often_L36_0 ..)) (by simp)
          | succ n ih =>
            intro S x1 x2 x4 x5 x6 x7 x8  H locs ls r h hW hl kk
            rw [m_X8_often_L36_s] at h
            refine lv_iload hx hb dX8_often_36 (lv_at hl 7 rfl) ?_
            refine lv_iload_n hx hb dX8_often_38 rfl (lv_at hl 2 rfl) ?_
            refine lv_icmp_ge (tgt := 115) hx hb dX8_often_39 (by decide) (fun c8 => ?_) (fun c8 => ?_)
            · replace h := ite_t h c8
              obtain rfl := Option.some.inj h
              exact kk _ _ _ hW (lv_sub hl [0, 1, 2, 4, 5, 6] rfl)
            · replace h := ite_f h c8
              refine lv_aload_n hx hb dX8_often_42 rfl (lv_at hl 0 rfl) ?_
              refine wd_get hC i8 hW 0 wC_c0 rfl 3 (Nat.le_of_ble_eq_true rfl) f32 rfl rfl dX8_often_43 ?_
              refine lv_aload_n hx hb dX8_often_46 rfl (lv_at hl 0 rfl) ?_
              refine wd_get hC i8 hW 0 wC_c0 rfl 2 (Nat.le_of_ble_eq_true rfl) f28 rfl rfl dX8_often_47 ?_
              obtain ⟨r9, hr10, h⟩ := bd_of h
              refine wd_callV0 (As := [.ref (ad 25)]) hC hW 34 wC_c34 rfl (c_X4_copy l D cy ad X n S r9 hr10) (cwV 1 hts (gu_V w_50_5 w_50_2 w_50_3 w_50_4 w_1_23) rfl rfl rfl hdX4_copy ⟨Nat.le_of_ble_eq_true rfl, Nat.le_of_ble_eq_true rfl⟩) rfl hl.1 rfl (Nat.le_of_ble_eq_true rfl) ⟨Nat.zero_le _, Nat.zero_le _⟩ dX8_often_50 (fun H locs hW => ?_)
              refine lv_aload_n hx hb dX8_often_53 rfl (lv_at hl 0 rfl) ?_
              refine wd_get hC i8 hW 0 wC_c0 rfl 3 (Nat.le_of_ble_eq_true rfl) f32 rfl rfl dX8_often_54 ?_
              refine lv_iload hx hb dX8_often_57 (lv_at hl 3 rfl) ?_
              obtain ⟨r11, hr12, h⟩ := bd_of h
              refine wd_callV1 (As := [.int x4]) hC hW 34 wC_c34 rfl (c_X4_drawOnD l D cy ad X n r9 x4 r11 hr12) (cwV 1 hts (gu_V w_49_3 w_49_0 w_49_1 w_49_2 w_1_23) rfl rfl rfl hdX4_drawOn ⟨Nat.le_of_ble_eq_true rfl, Nat.le_of_ble_eq_true rfl⟩) rfl hl.1 rfl (Nat.le_of_ble_eq_true rfl) ⟨Nat.zero_le _, Nat.zero_le _⟩ dX8_often_59 (fun H locs hW => ?_)
              refine lv_istore (lv' := [(4, .int r11.1), (0, .ref (ad 0)), (1, .int x1), (2, .int x2), (5, .int x5), (6, .int x6), (7, .int x7), (8, .int x8)]) hx hb dX8_often_62 hl (by decide) rfl (fun ls hl => ?_)
              refine lv_aload_n hx hb dX8_often_64 rfl (lv_at hl 1 rfl) ?_
              refine wd_get hC i8 hW 0 wC_c0 rfl 3 (Nat.le_of_ble_eq_true rfl) f32 rfl rfl dX8_often_65 ?_
              refine wd_get hC i4 hW 34 wC_c34 rfl 9 (Nat.le_of_ble_eq_true rfl) f143 rfl rfl dX8_often_68 ?_
              refine lv_iload_n hx hb dX8_often_71 rfl (lv_at hl 2 rfl) ?_
              obtain ⟨hi13, h⟩ := ck_of h
              refine wd_zald hC hW 38 wC_c38 hi13 dX8_often_72 ?_
              obtain ⟨q15, hq16, h⟩ := bd_of h
              have hJ96 : ∀ (H : Heap) (locs : List Loc) (ls : Array Slot), Wd D cy A s (wC ad cy r11.2 ++ X) H locs → lv_has ls 9 [(6, .int q15.2), (4, .int r11.1), (0, .ref (ad 0)), (1, .int x1), (2, .int x2), (5, .int q15.1), (7, .int x7), (8, .int x8)] → W p l e (RM 5) s m args below meth c H locs 0 0 Q (F0 m 96 ls []) := by
                intro H locs ls hW hl
                refine lv_iload hx hb dX8_often_96 (lv_at hl 6 rfl) ?_
                refine lv_aload_n hx hb dX8_often_98 rfl (lv_at hl 2 rfl) ?_
                refine wd_get hC i8 hW 0 wC_c0 rfl 3 (Nat.le_of_ble_eq_true rfl) f32 rfl rfl dX8_often_99 ?_
                refine lv_iload_n hx hb dX8_often_102 rfl (lv_at hl 3 rfl) ?_
                obtain ⟨r17, hr18, h⟩ := bd_of h
                refine wd_callV1 (As := [.int x1]) hC hW 34 wC_c34 rfl (c_X4_sumOfD l D cy ad X r11.2 x1 r17 hr18) (cwV 1 hts (gu_V w_17_3 w_17_0 w_17_1 w_17_2 w_1_23) rfl rfl rfl hdX4_sumOf ⟨Nat.le_of_ble_eq_true rfl, Nat.le_of_ble_eq_true rfl⟩) rfl hl.1 rfl (Nat.le_of_ble_eq_true rfl) ⟨Nat.zero_le _, Nat.zero_le _⟩ dX8_often_103 (fun H locs hW => ?_)
                refine lv_iadd hx hb dX8_often_106 ?_
                refine lv_istore (lv' := [(7, .int (x7 + r17)), (6, .int q15.2), (4, .int r11.1), (0, .ref (ad 0)), (1, .int x1), (2, .int x2), (5, .int q15.1), (8, .int x8)]) hx hb dX8_often_107 hl (by decide) rfl (fun ls hl => ?_)
                refine lv_iinc (v := x8 + 1) (lv' := [(8, .int (x8 + 1)), (7, .int (x7 + r17)), (6, .int q15.2), (4, .int r11.1), (0, .ref (ad 0)), (1, .int x1), (2, .int x2), (5, .int q15.1)]) hx hb dX8_often_109 hl (k := 7) rfl rfl (by decide) rfl (fun ls hl => ?_)
                refine lv_goto (tgt := 36) hx hb dX8_often_112 (by decide) ?_
                exact ih r11.2 x1 x2 r11.1 q15.1 q15.2 (x7 + r17) (x8 + 1) _ _ _ r h hW (lv_sub hl [4, 5, 6, 3, 7, 2, 1, 0] rfl) kk
              replace h := hq16
              refine lv_if_eq (tgt := 82) hx hb dX8_often_73 (by decide) (fun c14 => ?_) (fun c14 => ?_)
              · replace h := ite_t h c14
                refine lv_aload_n hx hb dX8_often_82 rfl (lv_at hl 1 rfl) ?_
                refine wd_get hC i8 hW 0 wC_c0 rfl 3 (Nat.le_of_ble_eq_true rfl) f32 rfl rfl dX8_often_83 ?_
                refine lv_iload_n hx hb dX8_often_86 rfl (lv_at hl 2 rfl) ?_
                obtain ⟨r19, hr20, h⟩ := bd_of h
                refine wd_callV1 (As := [.int x1]) hC hW 34 wC_c34 rfl (c_X4_placeOfD l D cy ad X n r11.2 x1 r19 hr20) (cwV 1 hts (gu_V w_23_0 w_22_21 w_22_22 w_22_23 w_1_23) rfl rfl rfl hdX4_placeOf ⟨Nat.le_of_ble_eq_true rfl, Nat.le_of_ble_eq_true rfl⟩) rfl hl.1 rfl (Nat.le_of_ble_eq_true rfl) ⟨Nat.zero_le _, Nat.zero_le _⟩ dX8_often_87 (fun H locs hW => ?_)
                refine lv_if_ne (tgt := 96) hx hb dX8_often_90 (by decide) (fun c21 => ?_) (fun c21 => ?_)
                · replace h := ite_f h c21
                  obtain rfl := Option.some.inj h
                  exact hJ96 _ _ _ hW (lv_sub hl [5, 0, 1, 2, 3, 4, 6, 7] rfl)
                · replace h := ite_t h c21
                  refine lv_iinc (v := x5 + 1) (lv' := [(5, .int (x5 + 1)), (4, .int r11.1), (0, .ref (ad 0)), (1, .int x1), (2, .int x2), (6, .int x6), (7, .int x7), (8, .int x8)]) hx hb dX8_often_93 hl (k := 4) rfl rfl (by decide) rfl (fun ls hl => ?_)
                  obtain rfl := Option.some.inj h
                  exact hJ96 _ _ _ hW (lv_sub hl [5, 1, 2, 3, 4, 0, 6, 7] rfl)
              · replace h := ite_f h c14
                refine lv_iinc (v := x6 + 1) (lv' := [(6, .int (x6 + 1)), (4, .int r11.1), (0, .ref (ad 0)), (1, .int x1), (2, .int x2), (5, .int x5), (7, .int x7), (8, .int x8)]) hx hb dX8_often_76 hl (k := 5) rfl rfl (by decide) rfl (fun ls hl => ?_)
                refine lv_goto (tgt := 96) hx hb dX8_often_79 (by decide) ?_
                obtain rfl := Option.some.inj h
                exact hJ96 _ _ _ hW (lv_sub hl [0, 1, 2, 3, 4, 5, 6, 7] rfl)
        obtain ⟨q6, hq7, h⟩ := bd_of h
        refine hL36 n S p0 p1 p2 0 0 0 0  _ _ _ q6 hq7 hW (lv_sub hl [5, 6, 7, 4, 3, 2, 1, 0] rfl) (fun H locs ls hW hl => ?_)
        refine lv_aload_n hx hb dX8_often_115 rfl (lv_at hl 0 rfl) ?_
        refine lv_iload hx hb dX8_often_116 (lv_at hl 4 rfl) ?_
        refine lv_iload hx hb dX8_often_118 (lv_at hl 5 rfl) ?_
        obtain ⟨r22, hr23, h⟩ := bd_of h
        refine wd_callV0 (As := [.int q6.2.2.1, .int q6.2.2.2]) hC hW 0 wC_c0 rfl (c_X8_tellTwo l D cy ad X q6.1 q6.2.2.1 q6.2.2.2 r22 hr23) (cwV 2 hts (gu_V w_18_21 w_18_18 w_18_19 w_18_20 w_1_2) rfl rfl rfl hdX8_tellTwo ⟨Nat.le_of_ble_eq_true rfl, Nat.le_of_ble_eq_true rfl⟩) rfl hl.1 rfl (Nat.le_of_ble_eq_true rfl) ⟨Nat.zero_le _, Nat.zero_le _⟩ dX8_often_120 (fun H locs hW => ?_)
        refine lv_iload hx hb dX8_often_123 (lv_at hl 3 rfl) ?_
        obtain rfl := Option.some.inj h
        exact wd_iret hA hQ hC hr hk hW dX8_often_125
      · replace h := ite_f h c5
        refine lv_iconst (v := (-1)) hx hb dX8_often_19 (by decide) ?_
        obtain rfl := Option.some.inj h
        exact wd_iret hA hQ hC hr hk hW dX8_often_20
def m_X8_count (n : Nat) (S : St) (p0 : Int32) : Option (Int32) :=
  if p0 = 0 then (some (S.1 30)) else (if p0 = 1 then (some (S.1 32)) else (if p0 = 2 then (some (S.1 33)) else (if p0 = 3 then (some (S.1 34)) else (if p0 = 4 then (some (S.1 35)) else (if p0 = 5 then (some (S.1 36)) else (if p0 = 6 then (some (S.1 31)) else (if p0 = 7 then (some (S.1 0)) else (if p0 = 8 then (some (S.1 1)) else (if p0 = 9 then ((m_X4_outBits 30 25 n S).bind (fun r11 => some r11)) else (some (-1)))))))))))
set_option maxHeartbeats 4000000 in
set_option maxRecDepth 100000 in
theorem c_X8_count (l : Launch) (D : va_G) (cy : Nat → ClassId) (ad : Nat → Nat) (X : va_W) (n : Nat) (S : St) (p0 : Int32) (r : (Int32)) (h : m_X8_count n S p0 = some r) : CT l yX8_count (wu yX8_count cX8_count 2 (some .int)) 1 D cy [.ref (ad 0), .int p0] (wC ad cy S ++ X) (some (.int r)) (wC ad cy S ++ X) := by
  refine CT.mk (cc := cX8_count) (maxL := 2) (ret := (some .int)) (own := RX8) (by decide) rfl rfl (Nat.le_of_ble_eq_true rfl) ?_
  intro p e s m args below meth c ls A Q hA hQ hC hr hk hW hl
  have hx := hC.1
  have hb := hC.2.1
  have hown := hC.2.2.2.1
  have hts := hC.2.2.2.2
  have hl : lv_has ls 2 [(0, .ref (ad 0)), (1, .int p0)] := hl
  have f28 := hts _ (wu_in w_2_0)
  have i8 := (fun w h => wu_in (inc_8 w h) : ∀ w ∈ u_ws RX8 TX8 12, w ∈ (wu yX8_count cX8_count 2 (some .int)))
  have f87 := hts _ (wu_in w_7_11)
  have i4 := (fun w h => wu_in (inc_4 w h) : ∀ w ∈ u_ws RX4 TX4 16, w ∈ (wu yX8_count cX8_count 2 (some .int)))
  have f260 := hts _ (wu_in w_42_22)
  have f263 := hts _ (wu_in w_42_23)
  have f266 := hts _ (wu_in w_50_15)
  have f172 := hts _ (wu_in w_22_6)
  have f269 := hts _ (wu_in w_50_16)
  have f111 := hts _ (wu_in w_14_13)
  have f65 := hts _ (wu_in w_2_18)
  have f12 := hts _ (wu_in w_1_16)
  have f81 := hts _ (wu_in w_6_5)
  have i7 := (fun w h => wu_in (inc_7 w h) : ∀ w ∈ u_ws RX7 TX7 4, w ∈ (wu yX8_count cX8_count 2 (some .int)))
  unfold m_X8_count at h
  refine lv_iload_n hx hb dX8_count_0 rfl (lv_at hl 1 rfl) ?_
  by_cases c1 : p0 = 0
  · replace h := ite_t h c1
    refine lv_tableIn (tgt := 56) hx hb dX8_count_1 (by rw [c1]; decide) (by rw [c1]; decide) (by rw [c1]; rfl) (by decide) ?_
    refine lv_aload_n hx hb dX8_count_56 rfl (lv_at hl 0 rfl) ?_
    refine wd_get hC i8 hW 0 wC_c0 rfl 2 (Nat.le_of_ble_eq_true rfl) f28 rfl rfl dX8_count_57 ?_
    refine wd_get hC i4 hW 25 wC_c25 rfl 1 (Nat.le_of_ble_eq_true rfl) f87 rfl rfl dX8_count_60 ?_
    obtain rfl := Option.some.inj h
    exact wd_iret hA hQ hC hr hk hW dX8_count_63
  replace h := ite_f h c1
  by_cases c2 : p0 = 1
  · replace h := ite_t h c2
    refine lv_tableIn (tgt := 64) hx hb dX8_count_1 (by rw [c2]; decide) (by rw [c2]; decide) (by rw [c2]; rfl) (by decide) ?_
    refine lv_aload_n hx hb dX8_count_64 rfl (lv_at hl 0 rfl) ?_
    refine wd_get hC i8 hW 0 wC_c0 rfl 2 (Nat.le_of_ble_eq_true rfl) f28 rfl rfl dX8_count_65 ?_
    refine wd_get hC i4 hW 25 wC_c25 rfl 3 (Nat.le_of_ble_eq_true rfl) f260 rfl rfl dX8_count_68 ?_
    obtain rfl := Option.some.inj h
    exact wd_iret hA hQ hC hr hk hW dX8_count_71
  replace h := ite_f h c2
  by_cases c3 : p0 = 2
  · replace h := ite_t h c3
    refine lv_tableIn (tgt := 72) hx hb dX8_count_1 (by rw [c3]; decide) (by rw [c3]; decide) (by rw [c3]; rfl) (by decide) ?_
    refine lv_aload_n hx hb dX8_count_72 rfl (lv_at hl 0 rfl) ?_
    refine wd_get hC i8 hW 0 wC_c0 rfl 2 (Nat.le_of_ble_eq_true rfl) f28 rfl rfl dX8_count_73 ?_
    refine wd_get hC i4 hW 25 wC_c25 rfl 4 (Nat.le_of_ble_eq_true rfl) f263 rfl rfl dX8_count_76 ?_
    obtain rfl := Option.some.inj h
    exact wd_iret hA hQ hC hr hk hW dX8_count_79
  replace h := ite_f h c3
  by_cases c4 : p0 = 3
  · replace h := ite_t h c4
    refine lv_tableIn (tgt := 80) hx hb dX8_count_1 (by rw [c4]; decide) (by rw [c4]; decide) (by rw [c4]; rfl) (by decide) ?_
    refine lv_aload_n hx hb dX8_count_80 rfl (lv_at hl 0 rfl) ?_
    refine wd_get hC i8 hW 0 wC_c0 rfl 2 (Nat.le_of_ble_eq_true rfl) f28 rfl rfl dX8_count_81 ?_
    refine wd_get hC i4 hW 25 wC_c25 rfl 5 (Nat.le_of_ble_eq_true rfl) f266 rfl rfl dX8_count_84 ?_
    obtain rfl := Option.some.inj h
    exact wd_iret hA hQ hC hr hk hW dX8_count_87
  replace h := ite_f h c4
  by_cases c5 : p0 = 4
  · replace h := ite_t h c5
    refine lv_tableIn (tgt := 88) hx hb dX8_count_1 (by rw [c5]; decide) (by rw [c5]; decide) (by rw [c5]; rfl) (by decide) ?_
    refine lv_aload_n hx hb dX8_count_88 rfl (lv_at hl 0 rfl) ?_
    refine wd_get hC i8 hW 0 wC_c0 rfl 2 (Nat.le_of_ble_eq_true rfl) f28 rfl rfl dX8_count_89 ?_
    refine wd_get hC i4 hW 25 wC_c25 rfl 14 (Nat.le_of_ble_eq_true rfl) f172 rfl rfl dX8_count_92 ?_
    obtain rfl := Option.some.inj h
    exact wd_iret hA hQ hC hr hk hW dX8_count_95
  replace h := ite_f h c5
  by_cases c6 : p0 = 5
  · replace h := ite_t h c6
    refine lv_tableIn (tgt := 96) hx hb dX8_count_1 (by rw [c6]; decide) (by rw [c6]; decide) (by rw [c6]; rfl) (by decide) ?_
    refine lv_aload_n hx hb dX8_count_96 rfl (lv_at hl 0 rfl) ?_
    refine wd_get hC i8 hW 0 wC_c0 rfl 2 (Nat.le_of_ble_eq_true rfl) f28 rfl rfl dX8_count_97 ?_
    refine wd_get hC i4 hW 25 wC_c25 rfl 15 (Nat.le_of_ble_eq_true rfl) f269 rfl rfl dX8_count_100 ?_
    obtain rfl := Option.some.inj h
    exact wd_iret hA hQ hC hr hk hW dX8_count_103
  replace h := ite_f h c6
  by_cases c7 : p0 = 6
  · replace h := ite_t h c7
    refine lv_tableIn (tgt := 104) hx hb dX8_count_1 (by rw [c7]; decide) (by rw [c7]; decide) (by rw [c7]; rfl) (by decide) ?_
    refine lv_aload_n hx hb dX8_count_104 rfl (lv_at hl 0 rfl) ?_
    refine wd_get hC i8 hW 0 wC_c0 rfl 2 (Nat.le_of_ble_eq_true rfl) f28 rfl rfl dX8_count_105 ?_
    refine wd_get hC i4 hW 25 wC_c25 rfl 2 (Nat.le_of_ble_eq_true rfl) f111 rfl rfl dX8_count_108 ?_
    obtain rfl := Option.some.inj h
    exact wd_iret hA hQ hC hr hk hW dX8_count_111
  replace h := ite_f h c7
  by_cases c8 : p0 = 7
  · replace h := ite_t h c8
    refine lv_tableIn (tgt := 112) hx hb dX8_count_1 (by rw [c8]; decide) (by rw [c8]; decide) (by rw [c8]; rfl) (by decide) ?_
    refine lv_aload_n hx hb dX8_count_112 rfl (lv_at hl 0 rfl) ?_
    refine wd_get hC i8 hW 0 wC_c0 rfl 9 (Nat.le_of_ble_eq_true rfl) f65 rfl rfl dX8_count_113 ?_
    obtain rfl := Option.some.inj h
    exact wd_iret hA hQ hC hr hk hW dX8_count_116
  replace h := ite_f h c8
  by_cases c9 : p0 = 8
  · replace h := ite_t h c9
    refine lv_tableIn (tgt := 117) hx hb dX8_count_1 (by rw [c9]; decide) (by rw [c9]; decide) (by rw [c9]; rfl) (by decide) ?_
    refine lv_aload_n hx hb dX8_count_117 rfl (lv_at hl 0 rfl) ?_
    refine wd_get hC i8 hW 0 wC_c0 rfl 0 (Nat.le_of_ble_eq_true rfl) f12 rfl rfl dX8_count_118 ?_
    refine wd_get hC i7 hW 1 wC_c1 rfl 1 (Nat.le_of_ble_eq_true rfl) f81 rfl rfl dX8_count_121 ?_
    obtain rfl := Option.some.inj h
    exact wd_iret hA hQ hC hr hk hW dX8_count_124
  replace h := ite_f h c9
  by_cases c10 : p0 = 9
  · replace h := ite_t h c10
    refine lv_tableIn (tgt := 125) hx hb dX8_count_1 (by rw [c10]; decide) (by rw [c10]; decide) (by rw [c10]; rfl) (by decide) ?_
    refine lv_aload_n hx hb dX8_count_125 rfl (lv_at hl 0 rfl) ?_
    refine wd_get hC i8 hW 0 wC_c0 rfl 2 (Nat.le_of_ble_eq_true rfl) f28 rfl rfl dX8_count_126 ?_
    obtain ⟨r11, hr12, h⟩ := bd_of h
    refine wd_callV1 (As := []) hC hW 25 wC_c25 rfl (c_X4_outBitsM l D cy ad X n S r11 hr12) (cwV 0 hts (gu_V w_50_20 w_50_17 w_50_18 w_50_19 w_1_23) rfl rfl rfl hdX4_outBits ⟨Nat.le_of_ble_eq_true rfl, Nat.le_of_ble_eq_true rfl⟩) rfl hl.1 rfl (Nat.le_of_ble_eq_true rfl) ⟨Nat.zero_le _, Nat.zero_le _⟩ dX8_count_129 (fun H locs hW => ?_)
    obtain rfl := Option.some.inj h
    exact wd_iret hA hQ hC hr hk hW dX8_count_132
  replace h := ite_f h c10
  have hsw : p0.toInt < 0 ∨ 9 < p0.toInt := by
    have : ¬ p0.toInt = 0 := lv_neT c1 rfl
    have : ¬ p0.toInt = 1 := lv_neT c2 rfl
    have : ¬ p0.toInt = 2 := lv_neT c3 rfl
    have : ¬ p0.toInt = 3 := lv_neT c4 rfl
    have : ¬ p0.toInt = 4 := lv_neT c5 rfl
    have : ¬ p0.toInt = 5 := lv_neT c6 rfl
    have : ¬ p0.toInt = 6 := lv_neT c7 rfl
    have : ¬ p0.toInt = 7 := lv_neT c8 rfl
    have : ¬ p0.toInt = 8 := lv_neT c9 rfl
    have : ¬ p0.toInt = 9 := lv_neT c10 rfl
    omega
  refine lv_tableOut (tgt := 133) hx hb dX8_count_1 hsw (by decide) ?_
  refine lv_iconst (v := (-1)) hx hb dX8_count_133 (by decide) ?_
  obtain rfl := Option.some.inj h
  exact wd_iret hA hQ hC hr hk hW dX8_count_134
def m_X8_byPlan (n : Nat) (S : St) (p0 : Int32) : Option (Int32 × St) :=
  ck p0 7 ((m_X6_prepare n S p0.toNatClampNeg (S.1 31)).bind (fun r2 => (m_X5_look r2 p0).bind (fun r4 => (m_X6_valueFrom r4).bind (fun r6 => some (r6.1, r6.2)))))
set_option maxHeartbeats 4000000 in
set_option maxRecDepth 100000 in
theorem c_X8_byPlan (l : Launch) (D : va_G) (cy : Nat → ClassId) (ad : Nat → Nat) (X : va_W) (n : Nat) (S : St) (p0 : Int32) (r : (Int32 × St)) (h : m_X8_byPlan n S p0 = some r) : CT l yX8_byPlan (wu yX8_byPlan cX8_byPlan 2 (some .int)) 43 D cy [.ref (ad 0), .int p0] (wC ad cy S ++ X) (some (.int r.1)) (wC ad cy r.2 ++ X) := by
  refine CT.mk (cc := cX8_byPlan) (maxL := 2) (ret := (some .int)) (own := RX8) (by decide) rfl rfl (Nat.le_of_ble_eq_true rfl) ?_
  intro p e s m args below meth c ls A Q hA hQ hC hr hk hW hl
  have hx := hC.1
  have hb := hC.2.1
  have hown := hC.2.2.2.1
  have hts := hC.2.2.2.2
  have hl : lv_has ls 2 [(0, .ref (ad 0)), (1, .int p0)] := hl
  have f52 := hts _ (wu_in w_2_13)
  have i8 := (fun w h => wu_in (inc_8 w h) : ∀ w ∈ u_ws RX8 TX8 12, w ∈ (wu yX8_byPlan cX8_byPlan 2 (some .int)))
  have f18 := hts _ (wu_in w_1_18)
  have f28 := hts _ (wu_in w_2_0)
  have f111 := hts _ (wu_in w_14_13)
  have i4 := (fun w h => wu_in (inc_4 w h) : ∀ w ∈ u_ws RX4 TX4 16, w ∈ (wu yX8_byPlan cX8_byPlan 2 (some .int)))
  have f45 := hts _ (wu_in w_2_9)
  have f38 := hts _ (wu_in w_2_5)
  unfold m_X8_byPlan at h
  refine lv_aload_n hx hb dX8_byPlan_0 rfl (lv_at hl 0 rfl) ?_
  refine wd_get hC i8 hW 0 wC_c0 rfl 6 (Nat.le_of_ble_eq_true rfl) f52 rfl rfl dX8_byPlan_1 ?_
  refine lv_aload_n hx hb dX8_byPlan_4 rfl (lv_at hl 0 rfl) ?_
  refine wd_get hC i8 hW 0 wC_c0 rfl 1 (Nat.le_of_ble_eq_true rfl) f18 rfl rfl dX8_byPlan_5 ?_
  refine lv_iload_n hx hb dX8_byPlan_8 rfl (lv_at hl 1 rfl) ?_
  obtain ⟨hi1, h⟩ := ck_of h
  refine wd_aldq hC hW 3 wC_c3 hi1 rfl dX8_byPlan_9 ?_
  refine lv_aload_n hx hb dX8_byPlan_10 rfl (lv_at hl 0 rfl) ?_
  refine wd_get hC i8 hW 0 wC_c0 rfl 2 (Nat.le_of_ble_eq_true rfl) f28 rfl rfl dX8_byPlan_11 ?_
  refine wd_get hC i4 hW 25 wC_c25 rfl 2 (Nat.le_of_ble_eq_true rfl) f111 rfl rfl dX8_byPlan_14 ?_
  refine lv_aload_n hx hb dX8_byPlan_17 rfl (lv_at hl 0 rfl) ?_
  refine wd_get hC i8 hW 0 wC_c0 rfl 5 (Nat.le_of_ble_eq_true rfl) f45 rfl rfl dX8_byPlan_18 ?_
  obtain ⟨r2, hr3, h⟩ := bd_of h
  refine wd_callV0 (As := [.ref (ad (4 + 3 * p0.toNatClampNeg)), .int (S.1 31), .ref (ad 44)]) hC hW 46 wC_c46 rfl (c_X6_prepare l D cy ad X n S p0.toNatClampNeg (S.1 31) r2 hr3 (in_lt hi1)) (cwV 3 hts (gu_V w_25_20 w_25_17 w_25_18 w_25_19 w_2_12) rfl rfl rfl hdX6_prepare ⟨Nat.le_of_ble_eq_true rfl, Nat.le_of_ble_eq_true rfl⟩) rfl hl.1 rfl (Nat.le_of_ble_eq_true rfl) ⟨Nat.zero_le _, Nat.zero_le _⟩ dX8_byPlan_21 (fun H locs hW => ?_)
  refine lv_aload_n hx hb dX8_byPlan_24 rfl (lv_at hl 0 rfl) ?_
  refine wd_get hC i8 hW 0 wC_c0 rfl 4 (Nat.le_of_ble_eq_true rfl) f38 rfl rfl dX8_byPlan_25 ?_
  refine lv_aload_n hx hb dX8_byPlan_28 rfl (lv_at hl 0 rfl) ?_
  refine wd_get hC i8 hW 0 wC_c0 rfl 2 (Nat.le_of_ble_eq_true rfl) f28 rfl rfl dX8_byPlan_29 ?_
  refine lv_iload_n hx hb dX8_byPlan_32 rfl (lv_at hl 1 rfl) ?_
  obtain ⟨r4, hr5, h⟩ := bd_of h
  refine wd_callV0 (As := [.ref (ad 25), .int p0]) hC hW 43 wC_c43 rfl (c_X5_look l D cy ad X r2 p0 r4 hr5) (cwV 2 hts (gu_V w_26_4 w_26_1 w_26_2 w_26_3 w_2_4) rfl rfl rfl hdX5_look ⟨Nat.le_of_ble_eq_true rfl, Nat.le_of_ble_eq_true rfl⟩) rfl hl.1 rfl (Nat.le_of_ble_eq_true rfl) ⟨Nat.zero_le _, Nat.zero_le _⟩ dX8_byPlan_33 (fun H locs hW => ?_)
  refine lv_aload_n hx hb dX8_byPlan_36 rfl (lv_at hl 0 rfl) ?_
  refine wd_get hC i8 hW 0 wC_c0 rfl 6 (Nat.le_of_ble_eq_true rfl) f52 rfl rfl dX8_byPlan_37 ?_
  refine lv_aload_n hx hb dX8_byPlan_40 rfl (lv_at hl 0 rfl) ?_
  refine wd_get hC i8 hW 0 wC_c0 rfl 4 (Nat.le_of_ble_eq_true rfl) f38 rfl rfl dX8_byPlan_41 ?_
  obtain ⟨r6, hr7, h⟩ := bd_of h
  refine wd_callV1 (As := [.ref (ad 43)]) hC hW 46 wC_c46 rfl (c_X6_valueFrom l D cy ad X r4 r6 hr7) (cwV 1 hts (gu_V w_27_1 w_26_22 w_26_23 w_27_0 w_2_12) rfl rfl rfl hdX6_valueFrom ⟨Nat.le_of_ble_eq_true rfl, Nat.le_of_ble_eq_true rfl⟩) rfl hl.1 rfl (Nat.le_of_ble_eq_true rfl) ⟨Nat.zero_le _, Nat.zero_le _⟩ dX8_byPlan_44 (fun H locs hW => ?_)
  obtain rfl := Option.some.inj h
  exact wd_iret hA hQ hC hr hk hW dX8_byPlan_47
def m_X8_reckonChances_L66 : Nat → St → Int32 → Nat → Int32 → Option (St)
  | 0, _, _, _, _ => none
  | n + 1, S, x2, x3, x4 =>
    if 122 ≤ x4 then (some S) else (nm (sI S 52 (((x2 + 120) + 1) - x4)) (fun S15 => (m_X6_valueFrom S15).bind (fun r17 => ck x4 122 (nm (sA r17.2 (52 + x3) x4.toNatClampNeg r17.1) (fun S20 => m_X8_reckonChances_L66 n S20 x2 x3 (x4 + 1))))))
theorem m_X8_reckonChances_L66_0 (S : St) (x2 : Int32) (x3 : Nat) (x4 : Int32) : m_X8_reckonChances_L66 0 S x2 x3 x4 = none := rfl
theorem m_X8_reckonChances_L66_s {n : Nat} {S : St} {x2 : Int32} {x3 : Nat} {x4 : Int32} : m_X8_reckonChances_L66 (n + 1) S x2 x3 x4 =
    (if 122 ≤ x4 then (some S) else (nm (sI S 52 (((x2 + 120) + 1) - x4)) (fun S15 => (m_X6_valueFrom S15).bind (fun r17 => ck x4 122 (nm (sA r17.2 (52 + x3) x4.toNatClampNeg r17.1) (fun S20 => m_X8_reckonChances_L66 n S20 x2 x3 (x4 + 1))))))) := rfl
def m_X8_reckonChances (n : Nat) (S : St) (p0 : Int32) : Option (St) :=
  (m_X0_beStep n S).bind (fun r1 => ck p0 7 ((m_X6_prepare n r1 p0.toNatClampNeg (r1.1 31)).bind (fun r4 => (m_X5_look r4 p0).bind (fun r6 => ck p0 6 (ck 0 122 (nm (sA r6 (52 + p0.toNatClampNeg) ((0 : Int32).toNatClampNeg) 1000000) (fun S10 => (m_X8_reckonChances_L66 n S10 (r6.1 52) p0.toNatClampNeg 1).bind (fun q12 => some q12))))))))
set_option maxHeartbeats 4000000 in
set_option maxRecDepth 100000 in
theorem c_X8_reckonChances (l : Launch) (D : va_G) (cy : Nat → ClassId) (ad : Nat → Nat) (X : va_W) (n : Nat) (S : St) (p0 : Int32) (r : (St)) (h : m_X8_reckonChances n S p0 = some r) : CT l yX8_reckonChances (wu yX8_reckonChances cX8_reckonChances 5 none) 43 D cy [.ref (ad 0), .int p0] (wC ad cy S ++ X) (none) (wC ad cy r ++ X) := by
  refine CT.mk (cc := cX8_reckonChances) (maxL := 5) (ret := none) (own := RX8) (by decide) rfl rfl (Nat.le_of_ble_eq_true rfl) ?_
  intro p e s m args below meth c ls A Q hA hQ hC hr hk hW hl
  have hx := hC.1
  have hb := hC.2.1
  have hown := hC.2.2.2.1
  have hts := hC.2.2.2.2
  have hl : lv_has ls 5 [(0, .ref (ad 0)), (1, .int p0)] := hl
  have f45 := hts _ (wu_in w_2_9)
  have i8 := (fun w h => wu_in (inc_8 w h) : ∀ w ∈ u_ws RX8 TX8 12, w ∈ (wu yX8_reckonChances cX8_reckonChances 5 none))
  have f52 := hts _ (wu_in w_2_13)
  have f18 := hts _ (wu_in w_1_18)
  have f28 := hts _ (wu_in w_2_0)
  have f111 := hts _ (wu_in w_14_13)
  have i4 := (fun w h => wu_in (inc_4 w h) : ∀ w ∈ u_ws RX4 TX4 16, w ∈ (wu yX8_reckonChances cX8_reckonChances 5 none))
  have f38 := hts _ (wu_in w_2_5)
  have f229 := hts _ (wu_in w_30_21)
  have i5 := (fun w h => wu_in (inc_5 w h) : ∀ w ∈ u_ws RX5 TX5 8, w ∈ (wu yX8_reckonChances cX8_reckonChances 5 none))
  have f58 := hts _ (wu_in w_2_16)
  have k213 := hts _ (wu_in w_30_22)
  unfold m_X8_reckonChances at h
  refine lv_aload_n hx hb dX8_reckonChances_0 rfl (lv_at hl 0 rfl) ?_
  refine wd_get hC i8 hW 0 wC_c0 rfl 5 (Nat.le_of_ble_eq_true rfl) f45 rfl rfl dX8_reckonChances_1 ?_
  obtain ⟨r1, hr2, h⟩ := bd_of h
  refine wd_callV0 (As := []) hC hW 44 wC_c44 rfl (c_X0_beStep l D cy ad X n S r1 hr2) (cwV 0 hts (gu_V w_31_2 w_30_23 w_31_0 w_31_1 w_2_8) rfl rfl rfl hdX0_beStep ⟨Nat.le_of_ble_eq_true rfl, Nat.le_of_ble_eq_true rfl⟩) rfl hl.1 rfl (Nat.le_of_ble_eq_true rfl) ⟨Nat.zero_le _, Nat.zero_le _⟩ dX8_reckonChances_4 (fun H locs hW => ?_)
  refine lv_aload_n hx hb dX8_reckonChances_7 rfl (lv_at hl 0 rfl) ?_
  refine wd_get hC i8 hW 0 wC_c0 rfl 6 (Nat.le_of_ble_eq_true rfl) f52 rfl rfl dX8_reckonChances_8 ?_
  refine lv_aload_n hx hb dX8_reckonChances_11 rfl (lv_at hl 0 rfl) ?_
  refine wd_get hC i8 hW 0 wC_c0 rfl 1 (Nat.le_of_ble_eq_true rfl) f18 rfl rfl dX8_reckonChances_12 ?_
  refine lv_iload_n hx hb dX8_reckonChances_15 rfl (lv_at hl 1 rfl) ?_
  obtain ⟨hi3, h⟩ := ck_of h
  refine wd_aldq hC hW 3 wC_c3 hi3 rfl dX8_reckonChances_16 ?_
  refine lv_aload_n hx hb dX8_reckonChances_17 rfl (lv_at hl 0 rfl) ?_
  refine wd_get hC i8 hW 0 wC_c0 rfl 2 (Nat.le_of_ble_eq_true rfl) f28 rfl rfl dX8_reckonChances_18 ?_
  refine wd_get hC i4 hW 25 wC_c25 rfl 2 (Nat.le_of_ble_eq_true rfl) f111 rfl rfl dX8_reckonChances_21 ?_
  refine lv_aload_n hx hb dX8_reckonChances_24 rfl (lv_at hl 0 rfl) ?_
  refine wd_get hC i8 hW 0 wC_c0 rfl 5 (Nat.le_of_ble_eq_true rfl) f45 rfl rfl dX8_reckonChances_25 ?_
  obtain ⟨r4, hr5, h⟩ := bd_of h
  refine wd_callV0 (As := [.ref (ad (4 + 3 * p0.toNatClampNeg)), .int (r1.1 31), .ref (ad 44)]) hC hW 46 wC_c46 rfl (c_X6_prepare l D cy ad X n r1 p0.toNatClampNeg (r1.1 31) r4 hr5 (in_lt hi3)) (cwV 3 hts (gu_V w_25_20 w_25_17 w_25_18 w_25_19 w_2_12) rfl rfl rfl hdX6_prepare ⟨Nat.le_of_ble_eq_true rfl, Nat.le_of_ble_eq_true rfl⟩) rfl hl.1 rfl (Nat.le_of_ble_eq_true rfl) ⟨Nat.zero_le _, Nat.zero_le _⟩ dX8_reckonChances_28 (fun H locs hW => ?_)
  refine lv_aload_n hx hb dX8_reckonChances_31 rfl (lv_at hl 0 rfl) ?_
  refine wd_get hC i8 hW 0 wC_c0 rfl 4 (Nat.le_of_ble_eq_true rfl) f38 rfl rfl dX8_reckonChances_32 ?_
  refine lv_aload_n hx hb dX8_reckonChances_35 rfl (lv_at hl 0 rfl) ?_
  refine wd_get hC i8 hW 0 wC_c0 rfl 2 (Nat.le_of_ble_eq_true rfl) f28 rfl rfl dX8_reckonChances_36 ?_
  refine lv_iload_n hx hb dX8_reckonChances_39 rfl (lv_at hl 1 rfl) ?_
  obtain ⟨r6, hr7, h⟩ := bd_of h
  refine wd_callV0 (As := [.ref (ad 25), .int p0]) hC hW 43 wC_c43 rfl (c_X5_look l D cy ad X r4 p0 r6 hr7) (cwV 2 hts (gu_V w_26_4 w_26_1 w_26_2 w_26_3 w_2_4) rfl rfl rfl hdX5_look ⟨Nat.le_of_ble_eq_true rfl, Nat.le_of_ble_eq_true rfl⟩) rfl hl.1 rfl (Nat.le_of_ble_eq_true rfl) ⟨Nat.zero_le _, Nat.zero_le _⟩ dX8_reckonChances_40 (fun H locs hW => ?_)
  refine lv_aload_n hx hb dX8_reckonChances_43 rfl (lv_at hl 0 rfl) ?_
  refine wd_get hC i8 hW 0 wC_c0 rfl 4 (Nat.le_of_ble_eq_true rfl) f38 rfl rfl dX8_reckonChances_44 ?_
  refine wd_get hC i5 hW 43 wC_c43 rfl 2 (Nat.le_of_ble_eq_true rfl) f229 rfl rfl dX8_reckonChances_47 ?_
  refine lv_istore_n (lv' := [(2, .int (r6.1 52)), (0, .ref (ad 0)), (1, .int p0)]) hx hb dX8_reckonChances_50 rfl hl (by decide) rfl (fun ls hl => ?_)
  refine lv_aload_n hx hb dX8_reckonChances_51 rfl (lv_at hl 1 rfl) ?_
  refine wd_get hC i8 hW 0 wC_c0 rfl 7 (Nat.le_of_ble_eq_true rfl) f58 rfl rfl dX8_reckonChances_52 ?_
  refine lv_iload_n hx hb dX8_reckonChances_55 rfl (lv_at hl 2 rfl) ?_
  obtain ⟨hi8, h⟩ := ck_of h
  refine wd_aldg hC hW 51 wC_c51 hi8 rfl dX8_reckonChances_56 ?_
  refine lv_astore_n (lv' := [(3, .ref (ad (52 + p0.toNatClampNeg))), (2, .int (r6.1 52)), (0, .ref (ad 0)), (1, .int p0)]) hx hb dX8_reckonChances_57 rfl hl (by decide) rfl (fun ls hl => ?_)
  refine lv_aload_n hx hb dX8_reckonChances_58 rfl (lv_at hl 0 rfl) ?_
  refine lv_iconst (v := 0) hx hb dX8_reckonChances_59 (by decide) ?_
  refine lv_ldc hx hb hown k213 dX8_reckonChances_60 ?_
  obtain ⟨hi9, h⟩ := ck_of h
  refine wd_iast hC hW (52 + p0.toNatClampNeg) (wG_ch (in_lt hi8)) hi9 (wG_ch_t (in_lt hi8)) dX8_reckonChances_62 (fun H locs hW => ?_)
  obtain ⟨S10, e11, h⟩ := nm_of h
  replace hW := wq_S e11 hW
  refine lv_iconst (v := 1) hx hb dX8_reckonChances_63 (by decide) ?_
  refine lv_istore (lv' := [(4, .int 1), (3, .ref (ad (52 + p0.toNatClampNeg))), (2, .int (r6.1 52)), (0, .ref (ad 0)), (1, .int p0)]) hx hb dX8_reckonChances_64 hl (by decide) rfl (fun ls hl => ?_)
  have hL66 : ∀ (n : Nat) (S : St) (x2 : Int32) (x3 : Nat) (x4 : Int32) (hx3 : x3 < 6) (H : Heap) (locs : List Loc) (ls : Array Slot) (r : (St)), m_X8_reckonChances_L66 n S x2 x3 x4 = some r → Wd D cy A s (wC ad cy S ++ X) H locs → lv_has ls 5 [(0, .ref (ad 0)), (2, .int x2), (3, .ref (ad (52 + x3))), (4, .int x4)] → (∀ (H : Heap) (locs : List Loc) (ls : Array Slot), Wd D cy A s (wC ad cy r ++ X) H locs → lv_has ls 5 [(0, .ref (ad 0)), (2, .int x2), (3, .ref (ad (52 + x3)))] → W p l e (RM 43) s m args below meth c H locs 0 0 Q (F0 m 110 ls [])) → W p l e (RM 43) s m args below meth c H locs 0 0 Q (F0 m 66 ls []) := by
    intro n
    induction n with
    | zero =>
      intro S x2 x3 x4 hx3 H locs ls r h
      exact absurd (h.symm.trans (m_X8_reckonChances_L66_0 ..)) (by simp)
    | succ n ih =>
      intro S x2 x3 x4 hx3 H locs ls r h hW hl kk
      rw [m_X8_reckonChances_L66_s] at h
      refine lv_iload hx hb dX8_reckonChances_66 (lv_at hl 3 rfl) ?_
      refine lv_aload_n hx hb dX8_reckonChances_68 rfl (lv_at hl 2 rfl) ?_
      refine wd_alen hC hW (52 + x3) 0 (wG_ch hx3) rfl (v := 122) rfl dX8_reckonChances_69 ?_
      refine lv_icmp_ge (tgt := 110) hx hb dX8_reckonChances_70 (by decide) (fun c14 => ?_) (fun c14 => ?_)
      · replace h := ite_t h c14
        obtain rfl := Option.some.inj h
        exact kk _ _ _ hW (lv_sub hl [0, 1, 2] rfl)
      · replace h := ite_f h c14
        refine lv_aload_n hx hb dX8_reckonChances_73 rfl (lv_at hl 0 rfl) ?_
        refine wd_get hC i8 hW 0 wC_c0 rfl 4 (Nat.le_of_ble_eq_true rfl) f38 rfl rfl dX8_reckonChances_74 ?_
        refine lv_iload_n hx hb dX8_reckonChances_77 rfl (lv_at hl 1 rfl) ?_
        refine lv_bipush (v := 120) hx hb dX8_reckonChances_78 (by decide) ?_
        refine lv_iadd hx hb dX8_reckonChances_80 ?_
        refine lv_iconst (v := 1) hx hb dX8_reckonChances_81 (by decide) ?_
        refine lv_iadd hx hb dX8_reckonChances_82 ?_
        refine lv_iload hx hb dX8_reckonChances_83 (lv_at hl 3 rfl) ?_
        refine lv_isub hx hb dX8_reckonChances_85 ?_
        refine wd_put hC i5 tyX5_ok nmX5 hW 43 wC_c43 rfl 2 (Nat.le_of_ble_eq_true rfl) f229 rfl rfl rfl rfl (Nat.le_of_ble_eq_true rfl) wC_s43_2 dX8_reckonChances_86 (fun H locs hW => ?_)
        obtain ⟨S15, e16, h⟩ := nm_of h
        replace hW := wq_S e16 hW
        refine lv_aload_n hx hb dX8_reckonChances_89 rfl (lv_at hl 2 rfl) ?_
        refine lv_iload hx hb dX8_reckonChances_90 (lv_at hl 3 rfl) ?_
        refine lv_aload_n hx hb dX8_reckonChances_92 rfl (lv_at hl 0 rfl) ?_
        refine wd_get hC i8 hW 0 wC_c0 rfl 6 (Nat.le_of_ble_eq_true rfl) f52 rfl rfl dX8_reckonChances_93 ?_
        refine lv_aload_n hx hb dX8_reckonChances_96 rfl (lv_at hl 0 rfl) ?_
        refine wd_get hC i8 hW 0 wC_c0 rfl 4 (Nat.le_of_ble_eq_true rfl) f38 rfl rfl dX8_reckonChances_97 ?_
        obtain ⟨r17, hr18, h⟩ := bd_of h
        refine wd_callV1 (As := [.ref (ad 43)]) hC hW 46 wC_c46 rfl (c_X6_valueFrom l D cy ad X S15 r17 hr18) (cwV 1 hts (gu_V w_27_1 w_26_22 w_26_23 w_27_0 w_2_12) rfl rfl rfl hdX6_valueFrom ⟨Nat.le_of_ble_eq_true rfl, Nat.le_of_ble_eq_true rfl⟩) rfl hl.1 rfl (Nat.le_of_ble_eq_true rfl) ⟨Nat.zero_le _, Nat.zero_le _⟩ dX8_reckonChances_100 (fun H locs hW => ?_)
        obtain ⟨hi19, h⟩ := ck_of h
        refine wd_iast hC hW (52 + x3) (wG_ch hx3) hi19 (wG_ch_t hx3) dX8_reckonChances_103 (fun H locs hW => ?_)
        obtain ⟨S20, e21, h⟩ := nm_of h
        replace hW := wq_S e21 hW
        refine lv_iinc (v := x4 + 1) (lv' := [(4, .int (x4 + 1)), (0, .ref (ad 0)), (2, .int x2), (3, .ref (ad (52 + x3)))]) hx hb dX8_reckonChances_104 hl (k := 3) rfl rfl (by decide) rfl (fun ls hl => ?_)
        refine lv_goto (tgt := 66) hx hb dX8_reckonChances_107 (by decide) ?_
        exact ih S20 x2 x3 (x4 + 1) hx3 _ _ _ r h hW (lv_sub hl [1, 2, 3, 0] rfl) kk
  obtain ⟨q12, hq13, h⟩ := bd_of h
  refine hL66 n S10 (r6.1 52) p0.toNatClampNeg 1 (in_lt hi8) _ _ _ q12 hq13 hW (lv_sub hl [3, 2, 1, 0] rfl) (fun H locs ls hW hl => ?_)
  obtain rfl := Option.some.inj h
  exact wd_vret hA hQ hC hr hk hW dX8_reckonChances_110
def m_X8_aimToBeat (n : Nat) (S : St) (p0 : Int32) (p1 : Int32) : Option (St) :=
  (m_X8_reckonChances n S p1).bind (fun r1 => (m_X0_beSure r1).bind (fun r3 => ck p0 7 (ck p1 7 ((m_X3_leadsLike r3 p0.toNatClampNeg p1.toNatClampNeg).bind (fun r7 => ck p1 6 ((m_X0_timesBeat n r3 r7 p1.toNatClampNeg).bind (fun r10 => some r10)))))))
set_option maxHeartbeats 4000000 in
set_option maxRecDepth 100000 in
theorem c_X8_aimToBeat (l : Launch) (D : va_G) (cy : Nat → ClassId) (ad : Nat → Nat) (X : va_W) (n : Nat) (S : St) (p0 : Int32) (p1 : Int32) (r : (St)) (h : m_X8_aimToBeat n S p0 p1 = some r) : CT l yX8_aimToBeat (wu yX8_aimToBeat cX8_aimToBeat 3 none) 44 D cy [.ref (ad 0), .int p0, .int p1] (wC ad cy S ++ X) (none) (wC ad cy r ++ X) := by
  refine CT.mk (cc := cX8_aimToBeat) (maxL := 3) (ret := none) (own := RX8) (by decide) rfl rfl (Nat.le_of_ble_eq_true rfl) ?_
  intro p e s m args below meth c ls A Q hA hQ hC hr hk hW hl
  have hx := hC.1
  have hb := hC.2.1
  have hown := hC.2.2.2.1
  have hts := hC.2.2.2.2
  have hl : lv_has ls 3 [(0, .ref (ad 0)), (1, .int p0), (2, .int p1)] := hl
  have f45 := hts _ (wu_in w_2_9)
  have i8 := (fun w h => wu_in (inc_8 w h) : ∀ w ∈ u_ws RX8 TX8 12, w ∈ (wu yX8_aimToBeat cX8_aimToBeat 3 none))
  have f18 := hts _ (wu_in w_1_18)
  have f58 := hts _ (wu_in w_2_16)
  unfold m_X8_aimToBeat at h
  refine lv_aload_n hx hb dX8_aimToBeat_0 rfl (lv_at hl 0 rfl) ?_
  refine lv_iload_n hx hb dX8_aimToBeat_1 rfl (lv_at hl 2 rfl) ?_
  obtain ⟨r1, hr2, h⟩ := bd_of h
  refine wd_callV0 (As := [.int p1]) hC hW 0 wC_c0 rfl (c_X8_reckonChances l D cy ad X n S p1 r1 hr2) (cwV 1 hts (gu_V w_30_20 w_30_17 w_30_18 w_30_19 w_1_2) rfl rfl rfl hdX8_reckonChances ⟨Nat.le_of_ble_eq_true rfl, Nat.le_of_ble_eq_true rfl⟩) rfl hl.1 rfl (Nat.le_of_ble_eq_true rfl) ⟨Nat.zero_le _, Nat.zero_le _⟩ dX8_aimToBeat_2 (fun H locs hW => ?_)
  refine lv_aload_n hx hb dX8_aimToBeat_5 rfl (lv_at hl 0 rfl) ?_
  refine wd_get hC i8 hW 0 wC_c0 rfl 5 (Nat.le_of_ble_eq_true rfl) f45 rfl rfl dX8_aimToBeat_6 ?_
  obtain ⟨r3, hr4, h⟩ := bd_of h
  refine wd_callV0 (As := []) hC hW 44 wC_c44 rfl (c_X0_beSure l D cy ad X r1 r3 hr4) (cwV 0 hts (gu_V w_31_23 w_31_20 w_31_21 w_31_22 w_2_8) rfl rfl rfl hdX0_beSure ⟨Nat.le_of_ble_eq_true rfl, Nat.le_of_ble_eq_true rfl⟩) rfl hl.1 rfl (Nat.le_of_ble_eq_true rfl) ⟨Nat.zero_le _, Nat.zero_le _⟩ dX8_aimToBeat_9 (fun H locs hW => ?_)
  refine lv_aload_n hx hb dX8_aimToBeat_12 rfl (lv_at hl 0 rfl) ?_
  refine wd_get hC i8 hW 0 wC_c0 rfl 5 (Nat.le_of_ble_eq_true rfl) f45 rfl rfl dX8_aimToBeat_13 ?_
  refine lv_aload_n hx hb dX8_aimToBeat_16 rfl (lv_at hl 0 rfl) ?_
  refine wd_get hC i8 hW 0 wC_c0 rfl 1 (Nat.le_of_ble_eq_true rfl) f18 rfl rfl dX8_aimToBeat_17 ?_
  refine lv_iload_n hx hb dX8_aimToBeat_20 rfl (lv_at hl 1 rfl) ?_
  obtain ⟨hi5, h⟩ := ck_of h
  refine wd_aldq hC hW 3 wC_c3 hi5 rfl dX8_aimToBeat_21 ?_
  refine lv_aload_n hx hb dX8_aimToBeat_22 rfl (lv_at hl 0 rfl) ?_
  refine wd_get hC i8 hW 0 wC_c0 rfl 1 (Nat.le_of_ble_eq_true rfl) f18 rfl rfl dX8_aimToBeat_23 ?_
  refine lv_iload_n hx hb dX8_aimToBeat_26 rfl (lv_at hl 2 rfl) ?_
  obtain ⟨hi6, h⟩ := ck_of h
  refine wd_aldq hC hW 3 wC_c3 hi6 rfl dX8_aimToBeat_27 ?_
  obtain ⟨r7, hr8, h⟩ := bd_of h
  refine wd_callV1 (As := [.ref (ad (4 + 3 * p1.toNatClampNeg))]) hC hW (4 + 3 * p0.toNatClampNeg) (wC_L (in_lt hi5)) rfl (c_X3_leadsLike l D cy ad X r3 p0.toNatClampNeg p1.toNatClampNeg r7 hr8 (in_lt hi5) (in_lt hi6)) (cwV 1 hts (gu_V w_23_9 w_32_1 w_23_7 w_23_8 w_1_20) rfl rfl rfl hdX3_leadsLike ⟨Nat.le_of_ble_eq_true rfl, Nat.le_of_ble_eq_true rfl⟩) rfl hl.1 rfl (Nat.le_of_ble_eq_true rfl) ⟨Nat.zero_le _, Nat.zero_le _⟩ dX8_aimToBeat_28 (fun H locs hW => ?_)
  refine lv_aload_n hx hb dX8_aimToBeat_31 rfl (lv_at hl 0 rfl) ?_
  refine wd_get hC i8 hW 0 wC_c0 rfl 7 (Nat.le_of_ble_eq_true rfl) f58 rfl rfl dX8_aimToBeat_32 ?_
  refine lv_iload_n hx hb dX8_aimToBeat_35 rfl (lv_at hl 2 rfl) ?_
  obtain ⟨hi9, h⟩ := ck_of h
  refine wd_aldg hC hW 51 wC_c51 hi9 rfl dX8_aimToBeat_36 ?_
  obtain ⟨r10, hr11, h⟩ := bd_of h
  refine wd_callV0 (As := [.int r7, .ref (ad (52 + p1.toNatClampNeg))]) hC hW 44 wC_c44 rfl (c_X0_timesBeat l D cy ad X n r3 r7 p1.toNatClampNeg r10 hr11 (in_lt hi9)) (cwV 2 hts (gu_V w_32_5 w_32_2 w_32_3 w_32_4 w_2_8) rfl rfl rfl hdX0_timesBeat ⟨Nat.le_of_ble_eq_true rfl, Nat.le_of_ble_eq_true rfl⟩) rfl hl.1 rfl (Nat.le_of_ble_eq_true rfl) ⟨Nat.zero_le _, Nat.zero_le _⟩ dX8_aimToBeat_37 (fun H locs hW => ?_)
  obtain rfl := Option.some.inj h
  exact wd_vret hA hQ hC hr hk hW dX8_aimToBeat_40
def m_X8_aimAheadOfAll_L9 : Nat → St → Int32 → Int32 → Option (St)
  | 0, _, _, _ => none
  | n + 1, S, x1, x2 =>
    if (S.1 30) ≤ x2 then (some S) else (if x2 = x1 then (m_X8_aimAheadOfAll_L9 n S x1 (x2 + 1)) else (ck x1 7 (ck x2 7 ((m_X3_leadsLike S x1.toNatClampNeg x2.toNatClampNeg).bind (fun r9 => ck x2 6 ((m_X0_timesBeat n S r9 x2.toNatClampNeg).bind (fun r12 => m_X8_aimAheadOfAll_L9 n r12 x1 (x2 + 1))))))))
theorem m_X8_aimAheadOfAll_L9_0 (S : St) (x1 : Int32) (x2 : Int32) : m_X8_aimAheadOfAll_L9 0 S x1 x2 = none := rfl
theorem m_X8_aimAheadOfAll_L9_s {n : Nat} {S : St} {x1 : Int32} {x2 : Int32} : m_X8_aimAheadOfAll_L9 (n + 1) S x1 x2 =
    (if (S.1 30) ≤ x2 then (some S) else (if x2 = x1 then (m_X8_aimAheadOfAll_L9 n S x1 (x2 + 1)) else (ck x1 7 (ck x2 7 ((m_X3_leadsLike S x1.toNatClampNeg x2.toNatClampNeg).bind (fun r9 => ck x2 6 ((m_X0_timesBeat n S r9 x2.toNatClampNeg).bind (fun r12 => m_X8_aimAheadOfAll_L9 n r12 x1 (x2 + 1))))))))) := rfl
def m_X8_aimAheadOfAll (n : Nat) (S : St) (p0 : Int32) : Option (St) :=
  (m_X0_beSure S).bind (fun r1 => (m_X8_aimAheadOfAll_L9 n r1 p0 0).bind (fun q3 => some q3))
set_option maxHeartbeats 4000000 in
set_option maxRecDepth 100000 in
theorem c_X8_aimAheadOfAll (l : Launch) (D : va_G) (cy : Nat → ClassId) (ad : Nat → Nat) (X : va_W) (n : Nat) (S : St) (p0 : Int32) (r : (St)) (h : m_X8_aimAheadOfAll n S p0 = some r) : CT l yX8_aimAheadOfAll (wu yX8_aimAheadOfAll cX8_aimAheadOfAll 3 none) 2 D cy [.ref (ad 0), .int p0] (wC ad cy S ++ X) (none) (wC ad cy r ++ X) := by
  refine CT.mk (cc := cX8_aimAheadOfAll) (maxL := 3) (ret := none) (own := RX8) (by decide) rfl rfl (Nat.le_of_ble_eq_true rfl) ?_
  intro p e s m args below meth c ls A Q hA hQ hC hr hk hW hl
  have hx := hC.1
  have hb := hC.2.1
  have hown := hC.2.2.2.1
  have hts := hC.2.2.2.2
  have hl : lv_has ls 3 [(0, .ref (ad 0)), (1, .int p0)] := hl
  have f45 := hts _ (wu_in w_2_9)
  have i8 := (fun w h => wu_in (inc_8 w h) : ∀ w ∈ u_ws RX8 TX8 12, w ∈ (wu yX8_aimAheadOfAll cX8_aimAheadOfAll 3 none))
  have f28 := hts _ (wu_in w_2_0)
  have f87 := hts _ (wu_in w_7_11)
  have i4 := (fun w h => wu_in (inc_4 w h) : ∀ w ∈ u_ws RX4 TX4 16, w ∈ (wu yX8_aimAheadOfAll cX8_aimAheadOfAll 3 none))
  have f18 := hts _ (wu_in w_1_18)
  have f58 := hts _ (wu_in w_2_16)
  unfold m_X8_aimAheadOfAll at h
  refine lv_aload_n hx hb dX8_aimAheadOfAll_0 rfl (lv_at hl 0 rfl) ?_
  refine wd_get hC i8 hW 0 wC_c0 rfl 5 (Nat.le_of_ble_eq_true rfl) f45 rfl rfl dX8_aimAheadOfAll_1 ?_
  obtain ⟨r1, hr2, h⟩ := bd_of h
  refine wd_callV0 (As := []) hC hW 44 wC_c44 rfl (c_X0_beSure l D cy ad X S r1 hr2) (cwV 0 hts (gu_V w_31_23 w_31_20 w_31_21 w_31_22 w_2_8) rfl rfl rfl hdX0_beSure ⟨Nat.le_of_ble_eq_true rfl, Nat.le_of_ble_eq_true rfl⟩) rfl hl.1 rfl (Nat.le_of_ble_eq_true rfl) ⟨Nat.zero_le _, Nat.zero_le _⟩ dX8_aimAheadOfAll_4 (fun H locs hW => ?_)
  refine lv_iconst (v := 0) hx hb dX8_aimAheadOfAll_7 (by decide) ?_
  refine lv_istore_n (lv' := [(2, .int 0), (0, .ref (ad 0)), (1, .int p0)]) hx hb dX8_aimAheadOfAll_8 rfl hl (by decide) rfl (fun ls hl => ?_)
  have hL9 : ∀ (n : Nat) (S : St) (x1 : Int32) (x2 : Int32)  (H : Heap) (locs : List Loc) (ls : Array Slot) (r : (St)), m_X8_aimAheadOfAll_L9 n S x1 x2 = some r → Wd D cy A s (wC ad cy S ++ X) H locs → lv_has ls 3 [(0, .ref (ad 0)), (1, .int x1), (2, .int x2)] → (∀ (H : Heap) (locs : List Loc) (ls : Array Slot), Wd D cy A s (wC ad cy r ++ X) H locs → lv_has ls 3 [(0, .ref (ad 0)), (1, .int x1)] → W p l e (RM 2) s m args below meth c H locs 0 0 Q (F0 m 59 ls [])) → W p l e (RM 2) s m args below meth c H locs 0 0 Q (F0 m 9 ls []) := by
    intro n
    induction n with
    | zero =>
      intro S x1 x2  H locs ls r h
      exact absurd (h.symm.trans (m_X8_aimAheadOfAll_L9_0 ..)) (by simp)
    | succ n ih =>
      intro S x1 x2  H locs ls r h hW hl kk
      rw [m_X8_aimAheadOfAll_L9_s] at h
      refine lv_iload_n hx hb dX8_aimAheadOfAll_9 rfl (lv_at hl 2 rfl) ?_
      refine lv_aload_n hx hb dX8_aimAheadOfAll_10 rfl (lv_at hl 0 rfl) ?_
      refine wd_get hC i8 hW 0 wC_c0 rfl 2 (Nat.le_of_ble_eq_true rfl) f28 rfl rfl dX8_aimAheadOfAll_11 ?_
      refine wd_get hC i4 hW 25 wC_c25 rfl 1 (Nat.le_of_ble_eq_true rfl) f87 rfl rfl dX8_aimAheadOfAll_14 ?_
      refine lv_icmp_ge (tgt := 59) hx hb dX8_aimAheadOfAll_17 (by decide) (fun c5 => ?_) (fun c5 => ?_)
      · replace h := ite_t h c5
        obtain rfl := Option.some.inj h
        exact kk _ _ _ hW (lv_sub hl [0, 1] rfl)
      · replace h := ite_f h c5
        refine lv_iload_n hx hb dX8_aimAheadOfAll_20 rfl (lv_at hl 2 rfl) ?_
        refine lv_iload_n hx hb dX8_aimAheadOfAll_21 rfl (lv_at hl 1 rfl) ?_
        refine lv_icmp_eq (tgt := 53) hx hb dX8_aimAheadOfAll_22 (by decide) (fun c6 => ?_) (fun c6 => ?_)
        · replace h := ite_t h c6
          refine lv_iinc (v := x2 + 1) (lv' := [(2, .int (x2 + 1)), (0, .ref (ad 0)), (1, .int x1)]) hx hb dX8_aimAheadOfAll_53 hl (k := 2) rfl rfl (by decide) rfl (fun ls hl => ?_)
          refine lv_goto (tgt := 9) hx hb dX8_aimAheadOfAll_56 (by decide) ?_
          exact ih S x1 (x2 + 1) _ _ _ r h hW (lv_sub hl [1, 2, 0] rfl) kk
        · replace h := ite_f h c6
          refine lv_aload_n hx hb dX8_aimAheadOfAll_25 rfl (lv_at hl 0 rfl) ?_
          refine wd_get hC i8 hW 0 wC_c0 rfl 5 (Nat.le_of_ble_eq_true rfl) f45 rfl rfl dX8_aimAheadOfAll_26 ?_
          refine lv_aload_n hx hb dX8_aimAheadOfAll_29 rfl (lv_at hl 0 rfl) ?_
          refine wd_get hC i8 hW 0 wC_c0 rfl 1 (Nat.le_of_ble_eq_true rfl) f18 rfl rfl dX8_aimAheadOfAll_30 ?_
          refine lv_iload_n hx hb dX8_aimAheadOfAll_33 rfl (lv_at hl 1 rfl) ?_
          obtain ⟨hi7, h⟩ := ck_of h
          refine wd_aldq hC hW 3 wC_c3 hi7 rfl dX8_aimAheadOfAll_34 ?_
          refine lv_aload_n hx hb dX8_aimAheadOfAll_35 rfl (lv_at hl 0 rfl) ?_
          refine wd_get hC i8 hW 0 wC_c0 rfl 1 (Nat.le_of_ble_eq_true rfl) f18 rfl rfl dX8_aimAheadOfAll_36 ?_
          refine lv_iload_n hx hb dX8_aimAheadOfAll_39 rfl (lv_at hl 2 rfl) ?_
          obtain ⟨hi8, h⟩ := ck_of h
          refine wd_aldq hC hW 3 wC_c3 hi8 rfl dX8_aimAheadOfAll_40 ?_
          obtain ⟨r9, hr10, h⟩ := bd_of h
          refine wd_callV1 (As := [.ref (ad (4 + 3 * x2.toNatClampNeg))]) hC hW (4 + 3 * x1.toNatClampNeg) (wC_L (in_lt hi7)) rfl (c_X3_leadsLike l D cy ad X S x1.toNatClampNeg x2.toNatClampNeg r9 hr10 (in_lt hi7) (in_lt hi8)) (cwV 1 hts (gu_V w_23_9 w_32_1 w_23_7 w_23_8 w_1_20) rfl rfl rfl hdX3_leadsLike ⟨Nat.le_of_ble_eq_true rfl, Nat.le_of_ble_eq_true rfl⟩) rfl hl.1 rfl (Nat.le_of_ble_eq_true rfl) ⟨Nat.zero_le _, Nat.zero_le _⟩ dX8_aimAheadOfAll_41 (fun H locs hW => ?_)
          refine lv_aload_n hx hb dX8_aimAheadOfAll_44 rfl (lv_at hl 0 rfl) ?_
          refine wd_get hC i8 hW 0 wC_c0 rfl 7 (Nat.le_of_ble_eq_true rfl) f58 rfl rfl dX8_aimAheadOfAll_45 ?_
          refine lv_iload_n hx hb dX8_aimAheadOfAll_48 rfl (lv_at hl 2 rfl) ?_
          obtain ⟨hi11, h⟩ := ck_of h
          refine wd_aldg hC hW 51 wC_c51 hi11 rfl dX8_aimAheadOfAll_49 ?_
          obtain ⟨r12, hr13, h⟩ := bd_of h
          refine wd_callV0 (As := [.int r9, .ref (ad (52 + x2.toNatClampNeg))]) hC hW 44 wC_c44 rfl (c_X0_timesBeat l D cy ad X n S r9 x2.toNatClampNeg r12 hr13 (in_lt hi11)) (cwV 2 hts (gu_V w_32_5 w_32_2 w_32_3 w_32_4 w_2_8) rfl rfl rfl hdX0_timesBeat ⟨Nat.le_of_ble_eq_true rfl, Nat.le_of_ble_eq_true rfl⟩) rfl hl.1 rfl (Nat.le_of_ble_eq_true rfl) ⟨Nat.zero_le _, Nat.zero_le _⟩ dX8_aimAheadOfAll_50 (fun H locs hW => ?_)
          refine lv_iinc (v := x2 + 1) (lv' := [(2, .int (x2 + 1)), (0, .ref (ad 0)), (1, .int x1)]) hx hb dX8_aimAheadOfAll_53 hl (k := 2) rfl rfl (by decide) rfl (fun ls hl => ?_)
          refine lv_goto (tgt := 9) hx hb dX8_aimAheadOfAll_56 (by decide) ?_
          exact ih r12 x1 (x2 + 1) _ _ _ r h hW (lv_sub hl [1, 2, 0] rfl) kk
  obtain ⟨q3, hq4, h⟩ := bd_of h
  refine hL9 n r1 p0 0  _ _ _ q3 hq4 hW (lv_sub hl [1, 2, 0] rfl) (fun H locs ls hW hl => ?_)
  obtain rfl := Option.some.inj h
  exact wd_vret hA hQ hC hr hk hW dX8_aimAheadOfAll_59
def m_X8_aimToWin_L2 : Nat → St → Int32 → Int32 → Option (St)
  | 0, _, _, _ => none
  | n + 1, S, x1, x2 =>
    if (S.1 30) ≤ x2 then (some S) else (if x2 = x1 then (m_X8_aimToWin_L2 n S x1 (x2 + 1)) else ((m_X8_reckonChances n S x2).bind (fun r5 => m_X8_aimToWin_L2 n r5 x1 (x2 + 1))))
theorem m_X8_aimToWin_L2_0 (S : St) (x1 : Int32) (x2 : Int32) : m_X8_aimToWin_L2 0 S x1 x2 = none := rfl
theorem m_X8_aimToWin_L2_s {n : Nat} {S : St} {x1 : Int32} {x2 : Int32} : m_X8_aimToWin_L2 (n + 1) S x1 x2 =
    (if (S.1 30) ≤ x2 then (some S) else (if x2 = x1 then (m_X8_aimToWin_L2 n S x1 (x2 + 1)) else ((m_X8_reckonChances n S x2).bind (fun r5 => m_X8_aimToWin_L2 n r5 x1 (x2 + 1))))) := rfl
def m_X8_aimToWin (n : Nat) (S : St) (p0 : Int32) : Option (St) :=
  (m_X8_aimToWin_L2 n S p0 0).bind (fun q1 => (m_X8_aimAheadOfAll n q1 p0).bind (fun r7 => some r7))
set_option maxHeartbeats 4000000 in
set_option maxRecDepth 100000 in
theorem c_X8_aimToWin (l : Launch) (D : va_G) (cy : Nat → ClassId) (ad : Nat → Nat) (X : va_W) (n : Nat) (S : St) (p0 : Int32) (r : (St)) (h : m_X8_aimToWin n S p0 = some r) : CT l yX8_aimToWin (wu yX8_aimToWin cX8_aimToWin 3 none) 44 D cy [.ref (ad 0), .int p0] (wC ad cy S ++ X) (none) (wC ad cy r ++ X) := by
  refine CT.mk (cc := cX8_aimToWin) (maxL := 3) (ret := none) (own := RX8) (by decide) rfl rfl (Nat.le_of_ble_eq_true rfl) ?_
  intro p e s m args below meth c ls A Q hA hQ hC hr hk hW hl
  have hx := hC.1
  have hb := hC.2.1
  have hown := hC.2.2.2.1
  have hts := hC.2.2.2.2
  have hl : lv_has ls 3 [(0, .ref (ad 0)), (1, .int p0)] := hl
  have f28 := hts _ (wu_in w_2_0)
  have i8 := (fun w h => wu_in (inc_8 w h) : ∀ w ∈ u_ws RX8 TX8 12, w ∈ (wu yX8_aimToWin cX8_aimToWin 3 none))
  have f87 := hts _ (wu_in w_7_11)
  have i4 := (fun w h => wu_in (inc_4 w h) : ∀ w ∈ u_ws RX4 TX4 16, w ∈ (wu yX8_aimToWin cX8_aimToWin 3 none))
  unfold m_X8_aimToWin at h
  refine lv_iconst (v := 0) hx hb dX8_aimToWin_0 (by decide) ?_
  refine lv_istore_n (lv' := [(2, .int 0), (0, .ref (ad 0)), (1, .int p0)]) hx hb dX8_aimToWin_1 rfl hl (by decide) rfl (fun ls hl => ?_)
  have hL2 : ∀ (n : Nat) (S : St) (x1 : Int32) (x2 : Int32)  (H : Heap) (locs : List Loc) (ls : Array Slot) (r : (St)), m_X8_aimToWin_L2 n S x1 x2 = some r → Wd D cy A s (wC ad cy S ++ X) H locs → lv_has ls 3 [(0, .ref (ad 0)), (1, .int x1), (2, .int x2)] → (∀ (H : Heap) (locs : List Loc) (ls : Array Slot), Wd D cy A s (wC ad cy r ++ X) H locs → lv_has ls 3 [(0, .ref (ad 0)), (1, .int x1)] → W p l e (RM 44) s m args below meth c H locs 0 0 Q (F0 m 29 ls [])) → W p l e (RM 44) s m args below meth c H locs 0 0 Q (F0 m 2 ls []) := by
    intro n
    induction n with
    | zero =>
      intro S x1 x2  H locs ls r h
      exact absurd (h.symm.trans (m_X8_aimToWin_L2_0 ..)) (by simp)
    | succ n ih =>
      intro S x1 x2  H locs ls r h hW hl kk
      rw [m_X8_aimToWin_L2_s] at h
      refine lv_iload_n hx hb dX8_aimToWin_2 rfl (lv_at hl 2 rfl) ?_
      refine lv_aload_n hx hb dX8_aimToWin_3 rfl (lv_at hl 0 rfl) ?_
      refine wd_get hC i8 hW 0 wC_c0 rfl 2 (Nat.le_of_ble_eq_true rfl) f28 rfl rfl dX8_aimToWin_4 ?_
      refine wd_get hC i4 hW 25 wC_c25 rfl 1 (Nat.le_of_ble_eq_true rfl) f87 rfl rfl dX8_aimToWin_7 ?_
      refine lv_icmp_ge (tgt := 29) hx hb dX8_aimToWin_10 (by decide) (fun c3 => ?_) (fun c3 => ?_)
      · replace h := ite_t h c3
        obtain rfl := Option.some.inj h
        exact kk _ _ _ hW (lv_sub hl [0, 1] rfl)
      · replace h := ite_f h c3
        refine lv_iload_n hx hb dX8_aimToWin_13 rfl (lv_at hl 2 rfl) ?_
        refine lv_iload_n hx hb dX8_aimToWin_14 rfl (lv_at hl 1 rfl) ?_
        refine lv_icmp_eq (tgt := 23) hx hb dX8_aimToWin_15 (by decide) (fun c4 => ?_) (fun c4 => ?_)
        · replace h := ite_t h c4
          refine lv_iinc (v := x2 + 1) (lv' := [(2, .int (x2 + 1)), (0, .ref (ad 0)), (1, .int x1)]) hx hb dX8_aimToWin_23 hl (k := 2) rfl rfl (by decide) rfl (fun ls hl => ?_)
          refine lv_goto (tgt := 2) hx hb dX8_aimToWin_26 (by decide) ?_
          exact ih S x1 (x2 + 1) _ _ _ r h hW (lv_sub hl [1, 2, 0] rfl) kk
        · replace h := ite_f h c4
          refine lv_aload_n hx hb dX8_aimToWin_18 rfl (lv_at hl 0 rfl) ?_
          refine lv_iload_n hx hb dX8_aimToWin_19 rfl (lv_at hl 2 rfl) ?_
          obtain ⟨r5, hr6, h⟩ := bd_of h
          refine wd_callV0 (As := [.int x2]) hC hW 0 wC_c0 rfl (c_X8_reckonChances l D cy ad X n S x2 r5 hr6) (cwV 1 hts (gu_V w_30_20 w_30_17 w_30_18 w_30_19 w_1_2) rfl rfl rfl hdX8_reckonChances ⟨Nat.le_of_ble_eq_true rfl, Nat.le_of_ble_eq_true rfl⟩) rfl hl.1 rfl (Nat.le_of_ble_eq_true rfl) ⟨Nat.zero_le _, Nat.zero_le _⟩ dX8_aimToWin_20 (fun H locs hW => ?_)
          refine lv_iinc (v := x2 + 1) (lv' := [(2, .int (x2 + 1)), (0, .ref (ad 0)), (1, .int x1)]) hx hb dX8_aimToWin_23 hl (k := 2) rfl rfl (by decide) rfl (fun ls hl => ?_)
          refine lv_goto (tgt := 2) hx hb dX8_aimToWin_26 (by decide) ?_
          exact ih r5 x1 (x2 + 1) _ _ _ r h hW (lv_sub hl [1, 2, 0] rfl) kk
  obtain ⟨q1, hq2, h⟩ := bd_of h
  refine hL2 n S p0 0  _ _ _ q1 hq2 hW (lv_sub hl [1, 2, 0] rfl) (fun H locs ls hW hl => ?_)
  refine lv_aload_n hx hb dX8_aimToWin_29 rfl (lv_at hl 0 rfl) ?_
  refine lv_iload_n hx hb dX8_aimToWin_30 rfl (lv_at hl 1 rfl) ?_
  obtain ⟨r7, hr8, h⟩ := bd_of h
  refine wd_callV0 (As := [.int p0]) hC hW 0 wC_c0 rfl (c_X8_aimAheadOfAll l D cy ad X n q1 p0 r7 hr8) (cwV 1 hts (gu_V w_33_2 w_32_23 w_33_0 w_33_1 w_1_2) rfl rfl rfl hdX8_aimAheadOfAll ⟨Nat.le_of_ble_eq_true rfl, Nat.le_of_ble_eq_true rfl⟩) rfl hl.1 rfl (Nat.le_of_ble_eq_true rfl) ⟨Nat.zero_le _, Nat.zero_le _⟩ dX8_aimToWin_31 (fun H locs hW => ?_)
  obtain rfl := Option.some.inj h
  exact wd_vret hA hQ hC hr hk hW dX8_aimToWin_34
def m_X8_mass (n : Nat) (S : St) (p0 : Int32) : Option (Int32 × St) :=
  (m_X8_isLifter S p0).bind (fun r1 => if r1 = 0 then (some ((-1), S)) else ((m_X0_beMass n S).bind (fun r4 => (m_X8_byPlan n r4 p0).bind (fun r6 => some (r6.1, r6.2)))))
set_option maxHeartbeats 4000000 in
set_option maxRecDepth 100000 in
theorem c_X8_mass (l : Launch) (D : va_G) (cy : Nat → ClassId) (ad : Nat → Nat) (X : va_W) (n : Nat) (S : St) (p0 : Int32) (r : (Int32 × St)) (h : m_X8_mass n S p0 = some r) : CT l yX8_mass (wu yX8_mass cX8_mass 2 (some .int)) 44 D cy [.ref (ad 0), .int p0] (wC ad cy S ++ X) (some (.int r.1)) (wC ad cy r.2 ++ X) := by
  refine CT.mk (cc := cX8_mass) (maxL := 2) (ret := (some .int)) (own := RX8) (by decide) rfl rfl (Nat.le_of_ble_eq_true rfl) ?_
  intro p e s m args below meth c ls A Q hA hQ hC hr hk hW hl
  have hx := hC.1
  have hb := hC.2.1
  have hown := hC.2.2.2.1
  have hts := hC.2.2.2.2
  have hl : lv_has ls 2 [(0, .ref (ad 0)), (1, .int p0)] := hl
  have f45 := hts _ (wu_in w_2_9)
  have i8 := (fun w h => wu_in (inc_8 w h) : ∀ w ∈ u_ws RX8 TX8 12, w ∈ (wu yX8_mass cX8_mass 2 (some .int)))
  unfold m_X8_mass at h
  refine lv_aload_n hx hb dX8_mass_0 rfl (lv_at hl 0 rfl) ?_
  refine lv_iload_n hx hb dX8_mass_1 rfl (lv_at hl 1 rfl) ?_
  obtain ⟨r1, hr2, h⟩ := bd_of h
  refine wd_callV1 (As := [.int p0]) hC hW 0 wC_c0 rfl (c_X8_isLifter l D cy ad X S p0 r1 hr2) (cwV 1 hts (gu_V w_13_9 w_13_6 w_13_7 w_13_8 w_1_2) rfl rfl rfl hdX8_isLifter ⟨Nat.le_of_ble_eq_true rfl, Nat.le_of_ble_eq_true rfl⟩) rfl hl.1 rfl (Nat.le_of_ble_eq_true rfl) ⟨Nat.zero_le _, Nat.zero_le _⟩ dX8_mass_2 (fun H locs hW => ?_)
  refine lv_if_ne (tgt := 10) hx hb dX8_mass_5 (by decide) (fun c3 => ?_) (fun c3 => ?_)
  · replace h := ite_f h c3
    refine lv_aload_n hx hb dX8_mass_10 rfl (lv_at hl 0 rfl) ?_
    refine wd_get hC i8 hW 0 wC_c0 rfl 5 (Nat.le_of_ble_eq_true rfl) f45 rfl rfl dX8_mass_11 ?_
    obtain ⟨r4, hr5, h⟩ := bd_of h
    refine wd_callV0 (As := []) hC hW 44 wC_c44 rfl (c_X0_beMass l D cy ad X n S r4 hr5) (cwV 0 hts (gu_V w_25_12 w_25_9 w_25_10 w_25_11 w_2_8) rfl rfl rfl hdX0_beMass ⟨Nat.le_of_ble_eq_true rfl, Nat.le_of_ble_eq_true rfl⟩) rfl hl.1 rfl (Nat.le_of_ble_eq_true rfl) ⟨Nat.zero_le _, Nat.zero_le _⟩ dX8_mass_14 (fun H locs hW => ?_)
    refine lv_aload_n hx hb dX8_mass_17 rfl (lv_at hl 0 rfl) ?_
    refine lv_iload_n hx hb dX8_mass_18 rfl (lv_at hl 1 rfl) ?_
    obtain ⟨r6, hr7, h⟩ := bd_of h
    refine wd_callV1 (As := [.int p0]) hC hW 0 wC_c0 rfl (c_X8_byPlan l D cy ad X n r4 p0 r6 hr7) (cwV 1 hts (gu_V w_25_16 w_25_13 w_25_14 w_25_15 w_1_2) rfl rfl rfl hdX8_byPlan ⟨Nat.le_of_ble_eq_true rfl, Nat.le_of_ble_eq_true rfl⟩) rfl hl.1 rfl (Nat.le_of_ble_eq_true rfl) ⟨Nat.zero_le _, Nat.zero_le _⟩ dX8_mass_19 (fun H locs hW => ?_)
    obtain rfl := Option.some.inj h
    exact wd_iret hA hQ hC hr hk hW dX8_mass_22
  · replace h := ite_t h c3
    refine lv_iconst (v := (-1)) hx hb dX8_mass_8 (by decide) ?_
    obtain rfl := Option.some.inj h
    exact wd_iret hA hQ hC hr hk hW dX8_mass_9
def m_X8_chance (n : Nat) (S : St) (p0 : Int32) (p1 : Int32) : Option (Int32 × St) :=
  (m_X8_isLifter S p0).bind (fun r1 => if r1 = 0 then (some ((-1), S)) else ((m_X8_isAimed S p1).bind (fun r4 => if r4 = 0 then (some ((-1), S)) else ((m_X0_beReach n S p1).bind (fun r7 => (m_X8_byPlan n r7 p0).bind (fun r9 => some (r9.1, r9.2)))))))
set_option maxHeartbeats 4000000 in
set_option maxRecDepth 100000 in
theorem c_X8_chance (l : Launch) (D : va_G) (cy : Nat → ClassId) (ad : Nat → Nat) (X : va_W) (n : Nat) (S : St) (p0 : Int32) (p1 : Int32) (r : (Int32 × St)) (h : m_X8_chance n S p0 p1 = some r) : CT l yX8_chance (wu yX8_chance cX8_chance 3 (some .int)) 44 D cy [.ref (ad 0), .int p0, .int p1] (wC ad cy S ++ X) (some (.int r.1)) (wC ad cy r.2 ++ X) := by
  refine CT.mk (cc := cX8_chance) (maxL := 3) (ret := (some .int)) (own := RX8) (by decide) rfl rfl (Nat.le_of_ble_eq_true rfl) ?_
  intro p e s m args below meth c ls A Q hA hQ hC hr hk hW hl
  have hx := hC.1
  have hb := hC.2.1
  have hown := hC.2.2.2.1
  have hts := hC.2.2.2.2
  have hl : lv_has ls 3 [(0, .ref (ad 0)), (1, .int p0), (2, .int p1)] := hl
  have f45 := hts _ (wu_in w_2_9)
  have i8 := (fun w h => wu_in (inc_8 w h) : ∀ w ∈ u_ws RX8 TX8 12, w ∈ (wu yX8_chance cX8_chance 3 (some .int)))
  unfold m_X8_chance at h
  refine lv_aload_n hx hb dX8_chance_0 rfl (lv_at hl 0 rfl) ?_
  refine lv_iload_n hx hb dX8_chance_1 rfl (lv_at hl 1 rfl) ?_
  obtain ⟨r1, hr2, h⟩ := bd_of h
  refine wd_callV1 (As := [.int p0]) hC hW 0 wC_c0 rfl (c_X8_isLifter l D cy ad X S p0 r1 hr2) (cwV 1 hts (gu_V w_13_9 w_13_6 w_13_7 w_13_8 w_1_2) rfl rfl rfl hdX8_isLifter ⟨Nat.le_of_ble_eq_true rfl, Nat.le_of_ble_eq_true rfl⟩) rfl hl.1 rfl (Nat.le_of_ble_eq_true rfl) ⟨Nat.zero_le _, Nat.zero_le _⟩ dX8_chance_2 (fun H locs hW => ?_)
  refine lv_if_eq (tgt := 15) hx hb dX8_chance_5 (by decide) (fun c3 => ?_) (fun c3 => ?_)
  · replace h := ite_t h c3
    refine lv_iconst (v := (-1)) hx hb dX8_chance_15 (by decide) ?_
    obtain rfl := Option.some.inj h
    exact wd_iret hA hQ hC hr hk hW dX8_chance_16
  · replace h := ite_f h c3
    refine lv_iload_n hx hb dX8_chance_8 rfl (lv_at hl 2 rfl) ?_
    obtain ⟨r4, hr5, h⟩ := bd_of h
    refine wd_callS1 (As := [.int p1]) hC hW (c_X8_isAimed l D cy ad X S p1 r4 hr5) (va_cwS 1 hts (gu_S w_29_14 w_29_12 w_29_13 w_1_2) rfl rfl rfl hdX8_isAimed ⟨Nat.le_of_ble_eq_true rfl, Nat.le_of_ble_eq_true rfl⟩) rfl hl.1 rfl (Nat.le_of_ble_eq_true rfl) ⟨Nat.zero_le _, Nat.zero_le _⟩ dX8_chance_9 (fun H locs hW => ?_)
    refine lv_if_ne (tgt := 17) hx hb dX8_chance_12 (by decide) (fun c6 => ?_) (fun c6 => ?_)
    · replace h := ite_f h c6
      refine lv_aload_n hx hb dX8_chance_17 rfl (lv_at hl 0 rfl) ?_
      refine wd_get hC i8 hW 0 wC_c0 rfl 5 (Nat.le_of_ble_eq_true rfl) f45 rfl rfl dX8_chance_18 ?_
      refine lv_iload_n hx hb dX8_chance_21 rfl (lv_at hl 2 rfl) ?_
      obtain ⟨r7, hr8, h⟩ := bd_of h
      refine wd_callV0 (As := [.int p1]) hC hW 44 wC_c44 rfl (c_X0_beReach l D cy ad X n S p1 r7 hr8) (cwV 1 hts (gu_V w_29_18 w_29_15 w_29_16 w_29_17 w_2_8) rfl rfl rfl hdX0_beReach ⟨Nat.le_of_ble_eq_true rfl, Nat.le_of_ble_eq_true rfl⟩) rfl hl.1 rfl (Nat.le_of_ble_eq_true rfl) ⟨Nat.zero_le _, Nat.zero_le _⟩ dX8_chance_22 (fun H locs hW => ?_)
      refine lv_aload_n hx hb dX8_chance_25 rfl (lv_at hl 0 rfl) ?_
      refine lv_iload_n hx hb dX8_chance_26 rfl (lv_at hl 1 rfl) ?_
      obtain ⟨r9, hr10, h⟩ := bd_of h
      refine wd_callV1 (As := [.int p0]) hC hW 0 wC_c0 rfl (c_X8_byPlan l D cy ad X n r7 p0 r9 hr10) (cwV 1 hts (gu_V w_25_16 w_25_13 w_25_14 w_25_15 w_1_2) rfl rfl rfl hdX8_byPlan ⟨Nat.le_of_ble_eq_true rfl, Nat.le_of_ble_eq_true rfl⟩) rfl hl.1 rfl (Nat.le_of_ble_eq_true rfl) ⟨Nat.zero_le _, Nat.zero_le _⟩ dX8_chance_27 (fun H locs hW => ?_)
      obtain rfl := Option.some.inj h
      exact wd_iret hA hQ hC hr hk hW dX8_chance_30
    · replace h := ite_t h c6
      refine lv_iconst (v := (-1)) hx hb dX8_chance_15 (by decide) ?_
      obtain rfl := Option.some.inj h
      exact wd_iret hA hQ hC hr hk hW dX8_chance_16
def m_X8_likeliest_L27 : Nat → St → Nat → Int32 → Int32 → Option (Int32)
  | 0, _, _, _, _ => none
  | n + 1, r4, x2, x3, x4 =>
    if 120 < x4 then (some x3) else (ck x4 122 (ck (x4 + 1) 122 (ck x3 122 (ck (x3 + 1) 122 (if ((r4.2.1 (52 + x2) x4.toNatClampNeg) - (r4.2.1 (52 + x2) (x4 + 1).toNatClampNeg)) ≤ ((r4.2.1 (52 + x2) x3.toNatClampNeg) - (r4.2.1 (52 + x2) (x3 + 1).toNatClampNeg)) then (m_X8_likeliest_L27 n r4 x2 x3 (x4 + 1)) else (m_X8_likeliest_L27 n r4 x2 x4 (x4 + 1)))))))
theorem m_X8_likeliest_L27_0 (r4 : St) (x2 : Nat) (x3 : Int32) (x4 : Int32) : m_X8_likeliest_L27 0 r4 x2 x3 x4 = none := rfl
theorem m_X8_likeliest_L27_s {n : Nat} {r4 : St} {x2 : Nat} {x3 : Int32} {x4 : Int32} : m_X8_likeliest_L27 (n + 1) r4 x2 x3 x4 =
    (if 120 < x4 then (some x3) else (ck x4 122 (ck (x4 + 1) 122 (ck x3 122 (ck (x3 + 1) 122 (if ((r4.2.1 (52 + x2) x4.toNatClampNeg) - (r4.2.1 (52 + x2) (x4 + 1).toNatClampNeg)) ≤ ((r4.2.1 (52 + x2) x3.toNatClampNeg) - (r4.2.1 (52 + x2) (x3 + 1).toNatClampNeg)) then (m_X8_likeliest_L27 n r4 x2 x3 (x4 + 1)) else (m_X8_likeliest_L27 n r4 x2 x4 (x4 + 1)))))))) := rfl
def m_X8_likeliest (n : Nat) (S : St) (p0 : Int32) : Option (Int32 × St) :=
  (m_X8_isLifter S p0).bind (fun r1 => if r1 = 0 then (some ((-1), S)) else ((m_X8_reckonChances n S p0).bind (fun r4 => ck p0 6 ((m_X8_likeliest_L27 n r4 p0.toNatClampNeg 0 1).bind (fun q7 => ck q7 122 (ck (q7 + 1) 122 (ck 1 122 ((m_X8_tellTwo r4 ((r4.2.1 (52 + p0.toNatClampNeg) q7.toNatClampNeg) - (r4.2.1 (52 + p0.toNatClampNeg) (q7 + 1).toNatClampNeg)) (r4.2.1 (52 + p0.toNatClampNeg) ((1 : Int32).toNatClampNeg))).bind (fun r18 => some (q7, r18))))))))))
set_option maxHeartbeats 4000000 in
set_option maxRecDepth 100000 in
theorem c_X8_likeliest (l : Launch) (D : va_G) (cy : Nat → ClassId) (ad : Nat → Nat) (X : va_W) (n : Nat) (S : St) (p0 : Int32) (r : (Int32 × St)) (h : m_X8_likeliest n S p0 = some r) : CT l yX8_likeliest (wu yX8_likeliest cX8_likeliest 5 (some .int)) 44 D cy [.ref (ad 0), .int p0] (wC ad cy S ++ X) (some (.int r.1)) (wC ad cy r.2 ++ X) := by
  refine CT.mk (cc := cX8_likeliest) (maxL := 5) (ret := (some .int)) (own := RX8) (by decide) rfl rfl (Nat.le_of_ble_eq_true rfl) ?_
  intro p e s m args below meth c ls A Q hA hQ hC hr hk hW hl
  have hx := hC.1
  have hb := hC.2.1
  have hown := hC.2.2.2.1
  have hts := hC.2.2.2.2
  have hl : lv_has ls 5 [(0, .ref (ad 0)), (1, .int p0)] := hl
  have f58 := hts _ (wu_in w_2_16)
  have i8 := (fun w h => wu_in (inc_8 w h) : ∀ w ∈ u_ws RX8 TX8 12, w ∈ (wu yX8_likeliest cX8_likeliest 5 (some .int)))
  unfold m_X8_likeliest at h
  refine lv_aload_n hx hb dX8_likeliest_0 rfl (lv_at hl 0 rfl) ?_
  refine lv_iload_n hx hb dX8_likeliest_1 rfl (lv_at hl 1 rfl) ?_
  obtain ⟨r1, hr2, h⟩ := bd_of h
  refine wd_callV1 (As := [.int p0]) hC hW 0 wC_c0 rfl (c_X8_isLifter l D cy ad X S p0 r1 hr2) (cwV 1 hts (gu_V w_13_9 w_13_6 w_13_7 w_13_8 w_1_2) rfl rfl rfl hdX8_isLifter ⟨Nat.le_of_ble_eq_true rfl, Nat.le_of_ble_eq_true rfl⟩) rfl hl.1 rfl (Nat.le_of_ble_eq_true rfl) ⟨Nat.zero_le _, Nat.zero_le _⟩ dX8_likeliest_2 (fun H locs hW => ?_)
  refine lv_if_ne (tgt := 10) hx hb dX8_likeliest_5 (by decide) (fun c3 => ?_) (fun c3 => ?_)
  · replace h := ite_f h c3
    refine lv_aload_n hx hb dX8_likeliest_10 rfl (lv_at hl 0 rfl) ?_
    refine lv_iload_n hx hb dX8_likeliest_11 rfl (lv_at hl 1 rfl) ?_
    obtain ⟨r4, hr5, h⟩ := bd_of h
    refine wd_callV0 (As := [.int p0]) hC hW 0 wC_c0 rfl (c_X8_reckonChances l D cy ad X n S p0 r4 hr5) (cwV 1 hts (gu_V w_30_20 w_30_17 w_30_18 w_30_19 w_1_2) rfl rfl rfl hdX8_reckonChances ⟨Nat.le_of_ble_eq_true rfl, Nat.le_of_ble_eq_true rfl⟩) rfl hl.1 rfl (Nat.le_of_ble_eq_true rfl) ⟨Nat.zero_le _, Nat.zero_le _⟩ dX8_likeliest_12 (fun H locs hW => ?_)
    refine lv_aload_n hx hb dX8_likeliest_15 rfl (lv_at hl 0 rfl) ?_
    refine wd_get hC i8 hW 0 wC_c0 rfl 7 (Nat.le_of_ble_eq_true rfl) f58 rfl rfl dX8_likeliest_16 ?_
    refine lv_iload_n hx hb dX8_likeliest_19 rfl (lv_at hl 1 rfl) ?_
    obtain ⟨hi6, h⟩ := ck_of h
    refine wd_aldg hC hW 51 wC_c51 hi6 rfl dX8_likeliest_20 ?_
    refine lv_astore_n (lv' := [(2, .ref (ad (52 + p0.toNatClampNeg))), (0, .ref (ad 0)), (1, .int p0)]) hx hb dX8_likeliest_21 rfl hl (by decide) rfl (fun ls hl => ?_)
    refine lv_iconst (v := 0) hx hb dX8_likeliest_22 (by decide) ?_
    refine lv_istore_n (lv' := [(3, .int 0), (2, .ref (ad (52 + p0.toNatClampNeg))), (0, .ref (ad 0)), (1, .int p0)]) hx hb dX8_likeliest_23 rfl hl (by decide) rfl (fun ls hl => ?_)
    refine lv_iconst (v := 1) hx hb dX8_likeliest_24 (by decide) ?_
    refine lv_istore (lv' := [(4, .int 1), (3, .int 0), (2, .ref (ad (52 + p0.toNatClampNeg))), (0, .ref (ad 0)), (1, .int p0)]) hx hb dX8_likeliest_25 hl (by decide) rfl (fun ls hl => ?_)
    have hL27 : ∀ (n : Nat) (x2 : Nat) (x3 : Int32) (x4 : Int32) (hx2 : x2 < 6) (H : Heap) (locs : List Loc) (ls : Array Slot) (r : (Int32)), m_X8_likeliest_L27 n r4 x2 x3 x4 = some r → Wd D cy A s (wC ad cy r4 ++ X) H locs → lv_has ls 5 [(0, .ref (ad 0)), (2, .ref (ad (52 + x2))), (3, .int x3), (4, .int x4)] → (∀ (H : Heap) (locs : List Loc) (ls : Array Slot), Wd D cy A s (wC ad cy r4 ++ X) H locs → lv_has ls 5 [(0, .ref (ad 0)), (2, .ref (ad (52 + x2))), (3, .int r)] → W p l e (RM 44) s m args below meth c H locs 0 0 Q (F0 m 66 ls [])) → W p l e (RM 44) s m args below meth c H locs 0 0 Q (F0 m 27 ls []) := by
      intro n
      induction n with
      | zero =>
        intro x2 x3 x4 hx2 H locs ls r h
        exact absurd (h.symm.trans (m_X8_likeliest_L27_0 ..)) (by simp)
      | succ n ih =>
        intro x2 x3 x4 hx2 H locs ls r h hW hl kk
        rw [m_X8_likeliest_L27_s] at h
        refine lv_iload hx hb dX8_likeliest_27 (lv_at hl 3 rfl) ?_
        refine lv_bipush (v := 120) hx hb dX8_likeliest_29 (by decide) ?_
        refine lv_icmp_gt (tgt := 66) hx hb dX8_likeliest_31 (by decide) (fun c9 => ?_) (fun c9 => ?_)
        · replace h := ite_t h c9
          obtain rfl := Option.some.inj h
          exact kk _ _ _ hW (lv_sub hl [0, 1, 2] rfl)
        · replace h := ite_f h c9
          refine lv_aload_n hx hb dX8_likeliest_34 rfl (lv_at hl 1 rfl) ?_
          refine lv_iload hx hb dX8_likeliest_35 (lv_at hl 3 rfl) ?_
          obtain ⟨hi10, h⟩ := ck_of h
          refine wd_iald hC hW (52 + x2) (wG_ch hx2) hi10 dX8_likeliest_37 ?_
          refine lv_aload_n hx hb dX8_likeliest_38 rfl (lv_at hl 1 rfl) ?_
          refine lv_iload hx hb dX8_likeliest_39 (lv_at hl 3 rfl) ?_
          refine lv_iconst (v := 1) hx hb dX8_likeliest_41 (by decide) ?_
          refine lv_iadd hx hb dX8_likeliest_42 ?_
          obtain ⟨hi11, h⟩ := ck_of h
          refine wd_iald hC hW (52 + x2) (wG_ch hx2) hi11 dX8_likeliest_43 ?_
          refine lv_isub hx hb dX8_likeliest_44 ?_
          refine lv_aload_n hx hb dX8_likeliest_45 rfl (lv_at hl 1 rfl) ?_
          refine lv_iload_n hx hb dX8_likeliest_46 rfl (lv_at hl 2 rfl) ?_
          obtain ⟨hi12, h⟩ := ck_of h
          refine wd_iald hC hW (52 + x2) (wG_ch hx2) hi12 dX8_likeliest_47 ?_
          refine lv_aload_n hx hb dX8_likeliest_48 rfl (lv_at hl 1 rfl) ?_
          refine lv_iload_n hx hb dX8_likeliest_49 rfl (lv_at hl 2 rfl) ?_
          refine lv_iconst (v := 1) hx hb dX8_likeliest_50 (by decide) ?_
          refine lv_iadd hx hb dX8_likeliest_51 ?_
          obtain ⟨hi13, h⟩ := ck_of h
          refine wd_iald hC hW (52 + x2) (wG_ch hx2) hi13 dX8_likeliest_52 ?_
          refine lv_isub hx hb dX8_likeliest_53 ?_
          refine lv_icmp_le (tgt := 60) hx hb dX8_likeliest_54 (by decide) (fun c14 => ?_) (fun c14 => ?_)
          · replace h := ite_t h c14
            refine lv_iinc (v := x4 + 1) (lv' := [(4, .int (x4 + 1)), (0, .ref (ad 0)), (2, .ref (ad (52 + x2))), (3, .int x3)]) hx hb dX8_likeliest_60 hl (k := 3) rfl rfl (by decide) rfl (fun ls hl => ?_)
            refine lv_goto (tgt := 27) hx hb dX8_likeliest_63 (by decide) ?_
            exact ih x2 x3 (x4 + 1) hx2 _ _ _ r h hW (lv_sub hl [1, 2, 3, 0] rfl) kk
          · replace h := ite_f h c14
            refine lv_iload hx hb dX8_likeliest_57 (lv_at hl 3 rfl) ?_
            refine lv_istore_n (lv' := [(3, .int x4), (0, .ref (ad 0)), (2, .ref (ad (52 + x2))), (4, .int x4)]) hx hb dX8_likeliest_59 rfl hl (by decide) rfl (fun ls hl => ?_)
            refine lv_iinc (v := x4 + 1) (lv' := [(4, .int (x4 + 1)), (3, .int x4), (0, .ref (ad 0)), (2, .ref (ad (52 + x2)))]) hx hb dX8_likeliest_60 hl (k := 3) rfl rfl (by decide) rfl (fun ls hl => ?_)
            refine lv_goto (tgt := 27) hx hb dX8_likeliest_63 (by decide) ?_
            exact ih x2 x4 (x4 + 1) hx2 _ _ _ r h hW (lv_sub hl [2, 3, 1, 0] rfl) kk
    obtain ⟨q7, hq8, h⟩ := bd_of h
    refine hL27 n p0.toNatClampNeg 0 1 (in_lt hi6) _ _ _ q7 hq8 hW (lv_sub hl [3, 2, 1, 0] rfl) (fun H locs ls hW hl => ?_)
    refine lv_aload_n hx hb dX8_likeliest_66 rfl (lv_at hl 0 rfl) ?_
    refine lv_aload_n hx hb dX8_likeliest_67 rfl (lv_at hl 1 rfl) ?_
    refine lv_iload_n hx hb dX8_likeliest_68 rfl (lv_at hl 2 rfl) ?_
    obtain ⟨hi15, h⟩ := ck_of h
    refine wd_iald hC hW (52 + p0.toNatClampNeg) (wG_ch (in_lt hi6)) hi15 dX8_likeliest_69 ?_
    refine lv_aload_n hx hb dX8_likeliest_70 rfl (lv_at hl 1 rfl) ?_
    refine lv_iload_n hx hb dX8_likeliest_71 rfl (lv_at hl 2 rfl) ?_
    refine lv_iconst (v := 1) hx hb dX8_likeliest_72 (by decide) ?_
    refine lv_iadd hx hb dX8_likeliest_73 ?_
    obtain ⟨hi16, h⟩ := ck_of h
    refine wd_iald hC hW (52 + p0.toNatClampNeg) (wG_ch (in_lt hi6)) hi16 dX8_likeliest_74 ?_
    refine lv_isub hx hb dX8_likeliest_75 ?_
    refine lv_aload_n hx hb dX8_likeliest_76 rfl (lv_at hl 1 rfl) ?_
    refine lv_iconst (v := 1) hx hb dX8_likeliest_77 (by decide) ?_
    obtain ⟨hi17, h⟩ := ck_of h
    refine wd_iald hC hW (52 + p0.toNatClampNeg) (wG_ch (in_lt hi6)) hi17 dX8_likeliest_78 ?_
    obtain ⟨r18, hr19, h⟩ := bd_of h
    refine wd_callV0 (As := [.int ((r4.2.1 (52 + p0.toNatClampNeg) q7.toNatClampNeg) - (r4.2.1 (52 + p0.toNatClampNeg) (q7 + 1).toNatClampNeg)), .int (r4.2.1 (52 + p0.toNatClampNeg) ((1 : Int32).toNatClampNeg))]) hC hW 0 wC_c0 rfl (c_X8_tellTwo l D cy ad X r4 ((r4.2.1 (52 + p0.toNatClampNeg) q7.toNatClampNeg) - (r4.2.1 (52 + p0.toNatClampNeg) (q7 + 1).toNatClampNeg)) (r4.2.1 (52 + p0.toNatClampNeg) ((1 : Int32).toNatClampNeg)) r18 hr19) (cwV 2 hts (gu_V w_18_21 w_18_18 w_18_19 w_18_20 w_1_2) rfl rfl rfl hdX8_tellTwo ⟨Nat.le_of_ble_eq_true rfl, Nat.le_of_ble_eq_true rfl⟩) rfl hl.1 rfl (Nat.le_of_ble_eq_true rfl) ⟨Nat.zero_le _, Nat.zero_le _⟩ dX8_likeliest_79 (fun H locs hW => ?_)
    refine lv_iload_n hx hb dX8_likeliest_82 rfl (lv_at hl 2 rfl) ?_
    obtain rfl := Option.some.inj h
    exact wd_iret hA hQ hC hr hk hW dX8_likeliest_83
  · replace h := ite_t h c3
    refine lv_iconst (v := (-1)) hx hb dX8_likeliest_8 (by decide) ?_
    obtain rfl := Option.some.inj h
    exact wd_iret hA hQ hC hr hk hW dX8_likeliest_9
def m_X8_beats (n : Nat) (S : St) (p0 : Int32) (p1 : Int32) : Option (Int32 × St) :=
  (m_X8_isLifter S p0).bind (fun r1 => if r1 = 0 then (some ((-1), S)) else ((m_X8_isLifter S p1).bind (fun r4 => if r4 = 0 then (some ((-1), S)) else (if p0 = p1 then (some ((-1), S)) else ((m_X8_aimToBeat n S p0 p1).bind (fun r8 => (m_X8_byPlan n r8 p0).bind (fun r10 => some (r10.1, r10.2))))))))
set_option maxHeartbeats 4000000 in
set_option maxRecDepth 100000 in
theorem c_X8_beats (l : Launch) (D : va_G) (cy : Nat → ClassId) (ad : Nat → Nat) (X : va_W) (n : Nat) (S : St) (p0 : Int32) (p1 : Int32) (r : (Int32 × St)) (h : m_X8_beats n S p0 p1 = some r) : CT l yX8_beats (wu yX8_beats cX8_beats 3 (some .int)) 45 D cy [.ref (ad 0), .int p0, .int p1] (wC ad cy S ++ X) (some (.int r.1)) (wC ad cy r.2 ++ X) := by
  refine CT.mk (cc := cX8_beats) (maxL := 3) (ret := (some .int)) (own := RX8) (by decide) rfl rfl (Nat.le_of_ble_eq_true rfl) ?_
  intro p e s m args below meth c ls A Q hA hQ hC hr hk hW hl
  have hx := hC.1
  have hb := hC.2.1
  have hown := hC.2.2.2.1
  have hts := hC.2.2.2.2
  have hl : lv_has ls 3 [(0, .ref (ad 0)), (1, .int p0), (2, .int p1)] := hl
  unfold m_X8_beats at h
  refine lv_aload_n hx hb dX8_beats_0 rfl (lv_at hl 0 rfl) ?_
  refine lv_iload_n hx hb dX8_beats_1 rfl (lv_at hl 1 rfl) ?_
  obtain ⟨r1, hr2, h⟩ := bd_of h
  refine wd_callV1 (As := [.int p0]) hC hW 0 wC_c0 rfl (c_X8_isLifter l D cy ad X S p0 r1 hr2) (cwV 1 hts (gu_V w_13_9 w_13_6 w_13_7 w_13_8 w_1_2) rfl rfl rfl hdX8_isLifter ⟨Nat.le_of_ble_eq_true rfl, Nat.le_of_ble_eq_true rfl⟩) rfl hl.1 rfl (Nat.le_of_ble_eq_true rfl) ⟨Nat.zero_le _, Nat.zero_le _⟩ dX8_beats_2 (fun H locs hW => ?_)
  refine lv_if_eq (tgt := 21) hx hb dX8_beats_5 (by decide) (fun c3 => ?_) (fun c3 => ?_)
  · replace h := ite_t h c3
    refine lv_iconst (v := (-1)) hx hb dX8_beats_21 (by decide) ?_
    obtain rfl := Option.some.inj h
    exact wd_iret hA hQ hC hr hk hW dX8_beats_22
  · replace h := ite_f h c3
    refine lv_aload_n hx hb dX8_beats_8 rfl (lv_at hl 0 rfl) ?_
    refine lv_iload_n hx hb dX8_beats_9 rfl (lv_at hl 2 rfl) ?_
    obtain ⟨r4, hr5, h⟩ := bd_of h
    refine wd_callV1 (As := [.int p1]) hC hW 0 wC_c0 rfl (c_X8_isLifter l D cy ad X S p1 r4 hr5) (cwV 1 hts (gu_V w_13_9 w_13_6 w_13_7 w_13_8 w_1_2) rfl rfl rfl hdX8_isLifter ⟨Nat.le_of_ble_eq_true rfl, Nat.le_of_ble_eq_true rfl⟩) rfl hl.1 rfl (Nat.le_of_ble_eq_true rfl) ⟨Nat.zero_le _, Nat.zero_le _⟩ dX8_beats_10 (fun H locs hW => ?_)
    refine lv_if_eq (tgt := 21) hx hb dX8_beats_13 (by decide) (fun c6 => ?_) (fun c6 => ?_)
    · replace h := ite_t h c6
      refine lv_iconst (v := (-1)) hx hb dX8_beats_21 (by decide) ?_
      obtain rfl := Option.some.inj h
      exact wd_iret hA hQ hC hr hk hW dX8_beats_22
    · replace h := ite_f h c6
      refine lv_iload_n hx hb dX8_beats_16 rfl (lv_at hl 1 rfl) ?_
      refine lv_iload_n hx hb dX8_beats_17 rfl (lv_at hl 2 rfl) ?_
      refine lv_icmp_ne (tgt := 23) hx hb dX8_beats_18 (by decide) (fun c7 => ?_) (fun c7 => ?_)
      · replace h := ite_f h c7
        refine lv_aload_n hx hb dX8_beats_23 rfl (lv_at hl 0 rfl) ?_
        refine lv_iload_n hx hb dX8_beats_24 rfl (lv_at hl 1 rfl) ?_
        refine lv_iload_n hx hb dX8_beats_25 rfl (lv_at hl 2 rfl) ?_
        obtain ⟨r8, hr9, h⟩ := bd_of h
        refine wd_callV0 (As := [.int p0, .int p1]) hC hW 0 wC_c0 rfl (c_X8_aimToBeat l D cy ad X n S p0 p1 r8 hr9) (cwV 2 hts (gu_V w_31_19 w_31_16 w_31_17 w_31_18 w_1_2) rfl rfl rfl hdX8_aimToBeat ⟨Nat.le_of_ble_eq_true rfl, Nat.le_of_ble_eq_true rfl⟩) rfl hl.1 rfl (Nat.le_of_ble_eq_true rfl) ⟨Nat.zero_le _, Nat.zero_le _⟩ dX8_beats_26 (fun H locs hW => ?_)
        refine lv_aload_n hx hb dX8_beats_29 rfl (lv_at hl 0 rfl) ?_
        refine lv_iload_n hx hb dX8_beats_30 rfl (lv_at hl 1 rfl) ?_
        obtain ⟨r10, hr11, h⟩ := bd_of h
        refine wd_callV1 (As := [.int p0]) hC hW 0 wC_c0 rfl (c_X8_byPlan l D cy ad X n r8 p0 r10 hr11) (cwV 1 hts (gu_V w_25_16 w_25_13 w_25_14 w_25_15 w_1_2) rfl rfl rfl hdX8_byPlan ⟨Nat.le_of_ble_eq_true rfl, Nat.le_of_ble_eq_true rfl⟩) rfl hl.1 rfl (Nat.le_of_ble_eq_true rfl) ⟨Nat.zero_le _, Nat.zero_le _⟩ dX8_beats_31 (fun H locs hW => ?_)
        obtain rfl := Option.some.inj h
        exact wd_iret hA hQ hC hr hk hW dX8_beats_34
      · replace h := ite_t h c7
        refine lv_iconst (v := (-1)) hx hb dX8_beats_21 (by decide) ?_
        obtain rfl := Option.some.inj h
        exact wd_iret hA hQ hC hr hk hW dX8_beats_22
def m_X8_wins_L12 : Nat → St → Int32 → Int32 → Option (St)
  | 0, _, _, _ => none
  | n + 1, S, x1, x2 =>
    if (S.1 30) ≤ x2 then (some S) else ((m_X8_reckonChances n S x2).bind (fun r7 => m_X8_wins_L12 n r7 x1 (x2 + 1)))
theorem m_X8_wins_L12_0 (S : St) (x1 : Int32) (x2 : Int32) : m_X8_wins_L12 0 S x1 x2 = none := rfl
theorem m_X8_wins_L12_s {n : Nat} {S : St} {x1 : Int32} {x2 : Int32} : m_X8_wins_L12 (n + 1) S x1 x2 =
    (if (S.1 30) ≤ x2 then (some S) else ((m_X8_reckonChances n S x2).bind (fun r7 => m_X8_wins_L12 n r7 x1 (x2 + 1)))) := rfl
def m_X8_wins_L36 : Nat → St → Int32 → Int32 → Option (St)
  | 0, _, _, _ => none
  | n + 1, S, x1, x2 =>
    if (S.1 30) ≤ x2 then (some S) else ((m_X8_aimAheadOfAll n S x2).bind (fun r12 => (m_X8_byPlan n r12 x2).bind (fun r14 => ck x2 9 (nm (sJ r14.2 58 x2.toNatClampNeg r14.1.toInt64) (fun S17 => m_X8_wins_L36 n S17 x1 (x2 + 1))))))
theorem m_X8_wins_L36_0 (S : St) (x1 : Int32) (x2 : Int32) : m_X8_wins_L36 0 S x1 x2 = none := rfl
theorem m_X8_wins_L36_s {n : Nat} {S : St} {x1 : Int32} {x2 : Int32} : m_X8_wins_L36 (n + 1) S x1 x2 =
    (if (S.1 30) ≤ x2 then (some S) else ((m_X8_aimAheadOfAll n S x2).bind (fun r12 => (m_X8_byPlan n r12 x2).bind (fun r14 => ck x2 9 (nm (sJ r14.2 58 x2.toNatClampNeg r14.1.toInt64) (fun S17 => m_X8_wins_L36 n S17 x1 (x2 + 1))))))) := rfl
def m_X8_wins (n : Nat) (S : St) (p0 : Int32) : Option (Int32 × St) :=
  (m_X8_isLifter S p0).bind (fun r1 => if r1 = 0 then (some ((-1), S)) else ((m_X8_wins_L12 n S p0 0).bind (fun q4 => (m_X8_wins_L36 n q4 p0 0).bind (fun q9 => nm (sI q9 0 (q9.1 30)) (fun S19 => ck p0 9 (some ((S19.2.2.1 58 p0.toNatClampNeg).toInt32, S19)))))))
set_option maxHeartbeats 4000000 in
set_option maxRecDepth 100000 in
theorem c_X8_wins (l : Launch) (D : va_G) (cy : Nat → ClassId) (ad : Nat → Nat) (X : va_W) (n : Nat) (S : St) (p0 : Int32) (r : (Int32 × St)) (h : m_X8_wins n S p0 = some r) : CT l yX8_wins (wu yX8_wins cX8_wins 3 (some .int)) 44 D cy [.ref (ad 0), .int p0] (wC ad cy S ++ X) (some (.int r.1)) (wC ad cy r.2 ++ X) := by
  refine CT.mk (cc := cX8_wins) (maxL := 3) (ret := (some .int)) (own := RX8) (by decide) rfl rfl (Nat.le_of_ble_eq_true rfl) ?_
  intro p e s m args below meth c ls A Q hA hQ hC hr hk hW hl
  have hx := hC.1
  have hb := hC.2.1
  have hown := hC.2.2.2.1
  have hts := hC.2.2.2.2
  have hl : lv_has ls 3 [(0, .ref (ad 0)), (1, .int p0)] := hl
  have f28 := hts _ (wu_in w_2_0)
  have i8 := (fun w h => wu_in (inc_8 w h) : ∀ w ∈ u_ws RX8 TX8 12, w ∈ (wu yX8_wins cX8_wins 3 (some .int)))
  have f87 := hts _ (wu_in w_7_11)
  have i4 := (fun w h => wu_in (inc_4 w h) : ∀ w ∈ u_ws RX4 TX4 16, w ∈ (wu yX8_wins cX8_wins 3 (some .int)))
  have f61 := hts _ (wu_in w_2_17)
  have f65 := hts _ (wu_in w_2_18)
  unfold m_X8_wins at h
  refine lv_aload_n hx hb dX8_wins_0 rfl (lv_at hl 0 rfl) ?_
  refine lv_iload_n hx hb dX8_wins_1 rfl (lv_at hl 1 rfl) ?_
  obtain ⟨r1, hr2, h⟩ := bd_of h
  refine wd_callV1 (As := [.int p0]) hC hW 0 wC_c0 rfl (c_X8_isLifter l D cy ad X S p0 r1 hr2) (cwV 1 hts (gu_V w_13_9 w_13_6 w_13_7 w_13_8 w_1_2) rfl rfl rfl hdX8_isLifter ⟨Nat.le_of_ble_eq_true rfl, Nat.le_of_ble_eq_true rfl⟩) rfl hl.1 rfl (Nat.le_of_ble_eq_true rfl) ⟨Nat.zero_le _, Nat.zero_le _⟩ dX8_wins_2 (fun H locs hW => ?_)
  refine lv_if_ne (tgt := 10) hx hb dX8_wins_5 (by decide) (fun c3 => ?_) (fun c3 => ?_)
  · replace h := ite_f h c3
    refine lv_iconst (v := 0) hx hb dX8_wins_10 (by decide) ?_
    refine lv_istore_n (lv' := [(2, .int 0), (0, .ref (ad 0)), (1, .int p0)]) hx hb dX8_wins_11 rfl hl (by decide) rfl (fun ls hl => ?_)
    have hL12 : ∀ (n : Nat) (S : St) (x1 : Int32) (x2 : Int32)  (H : Heap) (locs : List Loc) (ls : Array Slot) (r : (St)), m_X8_wins_L12 n S x1 x2 = some r → Wd D cy A s (wC ad cy S ++ X) H locs → lv_has ls 3 [(0, .ref (ad 0)), (1, .int x1), (2, .int x2)] → (∀ (H : Heap) (locs : List Loc) (ls : Array Slot), Wd D cy A s (wC ad cy r ++ X) H locs → lv_has ls 3 [(0, .ref (ad 0)), (1, .int x1)] → W p l e (RM 44) s m args below meth c H locs 0 0 Q (F0 m 34 ls [])) → W p l e (RM 44) s m args below meth c H locs 0 0 Q (F0 m 12 ls []) := by
      intro n
      induction n with
      | zero =>
        intro S x1 x2  H locs ls r h
        exact absurd (h.symm.trans (m_X8_wins_L12_0 ..)) (by simp)
      | succ n ih =>
        intro S x1 x2  H locs ls r h hW hl kk
        rw [m_X8_wins_L12_s] at h
        refine lv_iload_n hx hb dX8_wins_12 rfl (lv_at hl 2 rfl) ?_
        refine lv_aload_n hx hb dX8_wins_13 rfl (lv_at hl 0 rfl) ?_
        refine wd_get hC i8 hW 0 wC_c0 rfl 2 (Nat.le_of_ble_eq_true rfl) f28 rfl rfl dX8_wins_14 ?_
        refine wd_get hC i4 hW 25 wC_c25 rfl 1 (Nat.le_of_ble_eq_true rfl) f87 rfl rfl dX8_wins_17 ?_
        refine lv_icmp_ge (tgt := 34) hx hb dX8_wins_20 (by decide) (fun c6 => ?_) (fun c6 => ?_)
        · replace h := ite_t h c6
          obtain rfl := Option.some.inj h
          exact kk _ _ _ hW (lv_sub hl [0, 1] rfl)
        · replace h := ite_f h c6
          refine lv_aload_n hx hb dX8_wins_23 rfl (lv_at hl 0 rfl) ?_
          refine lv_iload_n hx hb dX8_wins_24 rfl (lv_at hl 2 rfl) ?_
          obtain ⟨r7, hr8, h⟩ := bd_of h
          refine wd_callV0 (As := [.int x2]) hC hW 0 wC_c0 rfl (c_X8_reckonChances l D cy ad X n S x2 r7 hr8) (cwV 1 hts (gu_V w_30_20 w_30_17 w_30_18 w_30_19 w_1_2) rfl rfl rfl hdX8_reckonChances ⟨Nat.le_of_ble_eq_true rfl, Nat.le_of_ble_eq_true rfl⟩) rfl hl.1 rfl (Nat.le_of_ble_eq_true rfl) ⟨Nat.zero_le _, Nat.zero_le _⟩ dX8_wins_25 (fun H locs hW => ?_)
          refine lv_iinc (v := x2 + 1) (lv' := [(2, .int (x2 + 1)), (0, .ref (ad 0)), (1, .int x1)]) hx hb dX8_wins_28 hl (k := 2) rfl rfl (by decide) rfl (fun ls hl => ?_)
          refine lv_goto (tgt := 12) hx hb dX8_wins_31 (by decide) ?_
          exact ih r7 x1 (x2 + 1) _ _ _ r h hW (lv_sub hl [1, 2, 0] rfl) kk
    obtain ⟨q4, hq5, h⟩ := bd_of h
    refine hL12 n S p0 0  _ _ _ q4 hq5 hW (lv_sub hl [1, 2, 0] rfl) (fun H locs ls hW hl => ?_)
    refine lv_iconst (v := 0) hx hb dX8_wins_34 (by decide) ?_
    refine lv_istore_n (lv' := [(2, .int 0), (0, .ref (ad 0)), (1, .int p0)]) hx hb dX8_wins_35 rfl hl (by decide) rfl (fun ls hl => ?_)
    have hL36 : ∀ (n : Nat) (S : St) (x1 : Int32) (x2 : Int32)  (H : Heap) (locs : List Loc) (ls : Array Slot) (r : (St)), m_X8_wins_L36 n S x1 x2 = some r → Wd D cy A s (wC ad cy S ++ X) H locs → lv_has ls 3 [(0, .ref (ad 0)), (1, .int x1), (2, .int x2)] → (∀ (H : Heap) (locs : List Loc) (ls : Array Slot), Wd D cy A s (wC ad cy r ++ X) H locs → lv_has ls 3 [(0, .ref (ad 0)), (1, .int x1)] → W p l e (RM 44) s m args below meth c H locs 0 0 Q (F0 m 70 ls [])) → W p l e (RM 44) s m args below meth c H locs 0 0 Q (F0 m 36 ls []) := by
      intro n
      induction n with
      | zero =>
        intro S x1 x2  H locs ls r h
        exact absurd (h.symm.trans (m_X8_wins_L36_0 ..)) (by simp)
      | succ n ih =>
        intro S x1 x2  H locs ls r h hW hl kk
        rw [m_X8_wins_L36_s] at h
        refine lv_iload_n hx hb dX8_wins_36 rfl (lv_at hl 2 rfl) ?_
        refine lv_aload_n hx hb dX8_wins_37 rfl (lv_at hl 0 rfl) ?_
        refine wd_get hC i8 hW 0 wC_c0 rfl 2 (Nat.le_of_ble_eq_true rfl) f28 rfl rfl dX8_wins_38 ?_
        refine wd_get hC i4 hW 25 wC_c25 rfl 1 (Nat.le_of_ble_eq_true rfl) f87 rfl rfl dX8_wins_41 ?_
        refine lv_icmp_ge (tgt := 70) hx hb dX8_wins_44 (by decide) (fun c11 => ?_) (fun c11 => ?_)
        · replace h := ite_t h c11
          obtain rfl := Option.some.inj h
          exact kk _ _ _ hW (lv_sub hl [0, 1] rfl)
        · replace h := ite_f h c11
          refine lv_aload_n hx hb dX8_wins_47 rfl (lv_at hl 0 rfl) ?_
          refine lv_iload_n hx hb dX8_wins_48 rfl (lv_at hl 2 rfl) ?_
          obtain ⟨r12, hr13, h⟩ := bd_of h
          refine wd_callV0 (As := [.int x2]) hC hW 0 wC_c0 rfl (c_X8_aimAheadOfAll l D cy ad X n S x2 r12 hr13) (cwV 1 hts (gu_V w_33_2 w_32_23 w_33_0 w_33_1 w_1_2) rfl rfl rfl hdX8_aimAheadOfAll ⟨Nat.le_of_ble_eq_true rfl, Nat.le_of_ble_eq_true rfl⟩) rfl hl.1 rfl (Nat.le_of_ble_eq_true rfl) ⟨Nat.zero_le _, Nat.zero_le _⟩ dX8_wins_49 (fun H locs hW => ?_)
          refine lv_aload_n hx hb dX8_wins_52 rfl (lv_at hl 0 rfl) ?_
          refine wd_get hC i8 hW 0 wC_c0 rfl 8 (Nat.le_of_ble_eq_true rfl) f61 rfl rfl dX8_wins_53 ?_
          refine lv_iload_n hx hb dX8_wins_56 rfl (lv_at hl 2 rfl) ?_
          refine lv_aload_n hx hb dX8_wins_57 rfl (lv_at hl 0 rfl) ?_
          refine lv_iload_n hx hb dX8_wins_58 rfl (lv_at hl 2 rfl) ?_
          obtain ⟨r14, hr15, h⟩ := bd_of h
          refine wd_callV1 (As := [.int x2]) hC hW 0 wC_c0 rfl (c_X8_byPlan l D cy ad X n r12 x2 r14 hr15) (cwV 1 hts (gu_V w_25_16 w_25_13 w_25_14 w_25_15 w_1_2) rfl rfl rfl hdX8_byPlan ⟨Nat.le_of_ble_eq_true rfl, Nat.le_of_ble_eq_true rfl⟩) rfl hl.1 rfl (Nat.le_of_ble_eq_true rfl) ⟨Nat.zero_le _, Nat.zero_le _⟩ dX8_wins_59 (fun H locs hW => ?_)
          refine lv_i2l (v := r14.1.toInt64) hx hb dX8_wins_62 rfl ?_
          obtain ⟨hi16, h⟩ := ck_of h
          refine wd_last hC hW 58 wC_c58 hi16 wC_t58 dX8_wins_63 (fun H locs hW => ?_)
          obtain ⟨S17, e18, h⟩ := nm_of h
          replace hW := wq_S e18 hW
          refine lv_iinc (v := x2 + 1) (lv' := [(2, .int (x2 + 1)), (0, .ref (ad 0)), (1, .int x1)]) hx hb dX8_wins_64 hl (k := 2) rfl rfl (by decide) rfl (fun ls hl => ?_)
          refine lv_goto (tgt := 36) hx hb dX8_wins_67 (by decide) ?_
          exact ih S17 x1 (x2 + 1) _ _ _ r h hW (lv_sub hl [1, 2, 0] rfl) kk
    obtain ⟨q9, hq10, h⟩ := bd_of h
    refine hL36 n q4 p0 0  _ _ _ q9 hq10 hW (lv_sub hl [1, 2, 0] rfl) (fun H locs ls hW hl => ?_)
    refine lv_aload_n hx hb dX8_wins_70 rfl (lv_at hl 0 rfl) ?_
    refine lv_aload_n hx hb dX8_wins_71 rfl (lv_at hl 0 rfl) ?_
    refine wd_get hC i8 hW 0 wC_c0 rfl 2 (Nat.le_of_ble_eq_true rfl) f28 rfl rfl dX8_wins_72 ?_
    refine wd_get hC i4 hW 25 wC_c25 rfl 1 (Nat.le_of_ble_eq_true rfl) f87 rfl rfl dX8_wins_75 ?_
    refine wd_put hC i8 tyX8_ok nmX8 hW 0 wC_c0 rfl 9 (Nat.le_of_ble_eq_true rfl) f65 rfl rfl rfl rfl (Nat.le_of_ble_eq_true rfl) wC_s0_9 dX8_wins_78 (fun H locs hW => ?_)
    obtain ⟨S19, e20, h⟩ := nm_of h
    replace hW := wq_S e20 hW
    refine lv_aload_n hx hb dX8_wins_81 rfl (lv_at hl 0 rfl) ?_
    refine wd_get hC i8 hW 0 wC_c0 rfl 8 (Nat.le_of_ble_eq_true rfl) f61 rfl rfl dX8_wins_82 ?_
    refine lv_iload_n hx hb dX8_wins_85 rfl (lv_at hl 1 rfl) ?_
    obtain ⟨hi21, h⟩ := ck_of h
    refine wd_lald hC hW 58 wC_c58 hi21 dX8_wins_86 ?_
    refine lv_l2i (v := (S19.2.2.1 58 p0.toNatClampNeg).toInt32) hx hb dX8_wins_87 rfl ?_
    obtain rfl := Option.some.inj h
    exact wd_iret hA hQ hC hr hk hW dX8_wins_88
  · replace h := ite_t h c3
    refine lv_iconst (v := (-1)) hx hb dX8_wins_8 (by decide) ?_
    obtain rfl := Option.some.inj h
    exact wd_iret hA hQ hC hr hk hW dX8_wins_9
def m_X8_bombs_L40 : Nat → St → Int32 → Int32 → Nat → Int32 → Option (St)
  | 0, _, _, _, _, _ => none
  | n + 1, S, x1, x2, x3, x4 =>
    if 3 ≤ x4 then (some S) else (ck (x4 * 3) 9 (ck ((x4 * 3) + 2) 9 ((m_X8_allFail n S x1 x4 (S.2.1 (6 + 3 * x3) (x4 * 3).toNatClampNeg) (S.2.1 (6 + 3 * x3) ((x4 * 3) + 2).toNatClampNeg)).bind (fun r14 => ck x4 9 (nm (sJ S 58 x4.toNatClampNeg r14.toInt64) (fun S17 => m_X8_bombs_L40 n S17 x1 x2 x3 (x4 + 1)))))))
theorem m_X8_bombs_L40_0 (S : St) (x1 : Int32) (x2 : Int32) (x3 : Nat) (x4 : Int32) : m_X8_bombs_L40 0 S x1 x2 x3 x4 = none := rfl
theorem m_X8_bombs_L40_s {n : Nat} {S : St} {x1 : Int32} {x2 : Int32} {x3 : Nat} {x4 : Int32} : m_X8_bombs_L40 (n + 1) S x1 x2 x3 x4 =
    (if 3 ≤ x4 then (some S) else (ck (x4 * 3) 9 (ck ((x4 * 3) + 2) 9 ((m_X8_allFail n S x1 x4 (S.2.1 (6 + 3 * x3) (x4 * 3).toNatClampNeg) (S.2.1 (6 + 3 * x3) ((x4 * 3) + 2).toNatClampNeg)).bind (fun r14 => ck x4 9 (nm (sJ S 58 x4.toNatClampNeg r14.toInt64) (fun S17 => m_X8_bombs_L40 n S17 x1 x2 x3 (x4 + 1)))))))) := rfl
def m_X8_bombs (n : Nat) (S : St) (p0 : Int32) : Option (Int32 × St) :=
  (m_X8_isLifter S p0).bind (fun r1 => if r1 = 0 then (some ((-1), S)) else ((m_X0_beReach n S 1).bind (fun r4 => (m_X8_byPlan n r4 p0).bind (fun r6 => ck p0 7 ((m_X8_bombs_L40 n r6.2 p0 (1000000 - r6.1) p0.toNatClampNeg 0).bind (fun q9 => nm (sI q9 0 3) (fun S19 => some (1000000 - r6.1, S19))))))))
set_option maxHeartbeats 4000000 in
set_option maxRecDepth 100000 in
theorem c_X8_bombs (l : Launch) (D : va_G) (cy : Nat → ClassId) (ad : Nat → Nat) (X : va_W) (n : Nat) (S : St) (p0 : Int32) (r : (Int32 × St)) (h : m_X8_bombs n S p0 = some r) : CT l yX8_bombs (wu yX8_bombs cX8_bombs 5 (some .int)) 44 D cy [.ref (ad 0), .int p0] (wC ad cy S ++ X) (some (.int r.1)) (wC ad cy r.2 ++ X) := by
  refine CT.mk (cc := cX8_bombs) (maxL := 5) (ret := (some .int)) (own := RX8) (by decide) rfl rfl (Nat.le_of_ble_eq_true rfl) ?_
  intro p e s m args below meth c ls A Q hA hQ hC hr hk hW hl
  have hx := hC.1
  have hb := hC.2.1
  have hown := hC.2.2.2.1
  have hts := hC.2.2.2.2
  have hl : lv_has ls 5 [(0, .ref (ad 0)), (1, .int p0)] := hl
  have f45 := hts _ (wu_in w_2_9)
  have i8 := (fun w h => wu_in (inc_8 w h) : ∀ w ∈ u_ws RX8 TX8 12, w ∈ (wu yX8_bombs cX8_bombs 5 (some .int)))
  have k213 := hts _ (wu_in w_30_22)
  have f18 := hts _ (wu_in w_1_18)
  have f107 := hts _ (wu_in w_13_5)
  have i3 := (fun w h => wu_in (inc_3 w h) : ∀ w ∈ u_ws RX3 TX3 4, w ∈ (wu yX8_bombs cX8_bombs 5 (some .int)))
  have f61 := hts _ (wu_in w_2_17)
  have f65 := hts _ (wu_in w_2_18)
  unfold m_X8_bombs at h
  refine lv_aload_n hx hb dX8_bombs_0 rfl (lv_at hl 0 rfl) ?_
  refine lv_iload_n hx hb dX8_bombs_1 rfl (lv_at hl 1 rfl) ?_
  obtain ⟨r1, hr2, h⟩ := bd_of h
  refine wd_callV1 (As := [.int p0]) hC hW 0 wC_c0 rfl (c_X8_isLifter l D cy ad X S p0 r1 hr2) (cwV 1 hts (gu_V w_13_9 w_13_6 w_13_7 w_13_8 w_1_2) rfl rfl rfl hdX8_isLifter ⟨Nat.le_of_ble_eq_true rfl, Nat.le_of_ble_eq_true rfl⟩) rfl hl.1 rfl (Nat.le_of_ble_eq_true rfl) ⟨Nat.zero_le _, Nat.zero_le _⟩ dX8_bombs_2 (fun H locs hW => ?_)
  refine lv_if_ne (tgt := 10) hx hb dX8_bombs_5 (by decide) (fun c3 => ?_) (fun c3 => ?_)
  · replace h := ite_f h c3
    refine lv_aload_n hx hb dX8_bombs_10 rfl (lv_at hl 0 rfl) ?_
    refine wd_get hC i8 hW 0 wC_c0 rfl 5 (Nat.le_of_ble_eq_true rfl) f45 rfl rfl dX8_bombs_11 ?_
    refine lv_iconst (v := 1) hx hb dX8_bombs_14 (by decide) ?_
    obtain ⟨r4, hr5, h⟩ := bd_of h
    refine wd_callV0 (As := [.int 1]) hC hW 44 wC_c44 rfl (c_X0_beReach l D cy ad X n S 1 r4 hr5) (cwV 1 hts (gu_V w_29_18 w_29_15 w_29_16 w_29_17 w_2_8) rfl rfl rfl hdX0_beReach ⟨Nat.le_of_ble_eq_true rfl, Nat.le_of_ble_eq_true rfl⟩) rfl hl.1 rfl (Nat.le_of_ble_eq_true rfl) ⟨Nat.zero_le _, Nat.zero_le _⟩ dX8_bombs_15 (fun H locs hW => ?_)
    refine lv_ldc hx hb hown k213 dX8_bombs_18 ?_
    refine lv_aload_n hx hb dX8_bombs_20 rfl (lv_at hl 0 rfl) ?_
    refine lv_iload_n hx hb dX8_bombs_21 rfl (lv_at hl 1 rfl) ?_
    obtain ⟨r6, hr7, h⟩ := bd_of h
    refine wd_callV1 (As := [.int p0]) hC hW 0 wC_c0 rfl (c_X8_byPlan l D cy ad X n r4 p0 r6 hr7) (cwV 1 hts (gu_V w_25_16 w_25_13 w_25_14 w_25_15 w_1_2) rfl rfl rfl hdX8_byPlan ⟨Nat.le_of_ble_eq_true rfl, Nat.le_of_ble_eq_true rfl⟩) rfl hl.1 rfl (Nat.le_of_ble_eq_true rfl) ⟨Nat.zero_le _, Nat.zero_le _⟩ dX8_bombs_22 (fun H locs hW => ?_)
    refine lv_isub hx hb dX8_bombs_25 ?_
    refine lv_istore_n (lv' := [(2, .int (1000000 - r6.1)), (0, .ref (ad 0)), (1, .int p0)]) hx hb dX8_bombs_26 rfl hl (by decide) rfl (fun ls hl => ?_)
    refine lv_aload_n hx hb dX8_bombs_27 rfl (lv_at hl 1 rfl) ?_
    refine wd_get hC i8 hW 0 wC_c0 rfl 1 (Nat.le_of_ble_eq_true rfl) f18 rfl rfl dX8_bombs_28 ?_
    refine lv_iload_n hx hb dX8_bombs_31 rfl (lv_at hl 2 rfl) ?_
    obtain ⟨hi8, h⟩ := ck_of h
    refine wd_aldq hC hW 3 wC_c3 hi8 rfl dX8_bombs_32 ?_
    refine wd_get hC i3 hW (4 + 3 * p0.toNatClampNeg) (wC_L (in_lt hi8)) rfl 3 (Nat.le_of_ble_eq_true rfl) f107 rfl rfl dX8_bombs_33 ?_
    refine lv_astore_n (lv' := [(3, .ref (ad (6 + 3 * p0.toNatClampNeg))), (2, .int (1000000 - r6.1)), (0, .ref (ad 0)), (1, .int p0)]) hx hb dX8_bombs_36 rfl hl (by decide) rfl (fun ls hl => ?_)
    refine lv_iconst (v := 0) hx hb dX8_bombs_37 (by decide) ?_
    refine lv_istore (lv' := [(4, .int 0), (3, .ref (ad (6 + 3 * p0.toNatClampNeg))), (2, .int (1000000 - r6.1)), (0, .ref (ad 0)), (1, .int p0)]) hx hb dX8_bombs_38 hl (by decide) rfl (fun ls hl => ?_)
    have hL40 : ∀ (n : Nat) (S : St) (x1 : Int32) (x2 : Int32) (x3 : Nat) (x4 : Int32) (hx3 : x3 < 7) (H : Heap) (locs : List Loc) (ls : Array Slot) (r : (St)), m_X8_bombs_L40 n S x1 x2 x3 x4 = some r → Wd D cy A s (wC ad cy S ++ X) H locs → lv_has ls 5 [(0, .ref (ad 0)), (1, .int x1), (2, .int x2), (3, .ref (ad (6 + 3 * x3))), (4, .int x4)] → (∀ (H : Heap) (locs : List Loc) (ls : Array Slot), Wd D cy A s (wC ad cy r ++ X) H locs → lv_has ls 5 [(0, .ref (ad 0)), (1, .int x1), (2, .int x2), (3, .ref (ad (6 + 3 * x3)))] → W p l e (RM 44) s m args below meth c H locs 0 0 Q (F0 m 81 ls [])) → W p l e (RM 44) s m args below meth c H locs 0 0 Q (F0 m 40 ls []) := by
      intro n
      induction n with
      | zero =>
        intro S x1 x2 x3 x4 hx3 H locs ls r h
        exact absurd (h.symm.trans (m_X8_bombs_L40_0 ..)) (by simp)
      | succ n ih =>
        intro S x1 x2 x3 x4 hx3 H locs ls r h hW hl kk
        rw [m_X8_bombs_L40_s] at h
        refine lv_iload hx hb dX8_bombs_40 (lv_at hl 4 rfl) ?_
        refine lv_iconst (v := 3) hx hb dX8_bombs_42 (by decide) ?_
        refine lv_icmp_ge (tgt := 81) hx hb dX8_bombs_43 (by decide) (fun c11 => ?_) (fun c11 => ?_)
        · replace h := ite_t h c11
          obtain rfl := Option.some.inj h
          exact kk _ _ _ hW (lv_sub hl [0, 1, 2, 3] rfl)
        · replace h := ite_f h c11
          refine lv_aload_n hx hb dX8_bombs_46 rfl (lv_at hl 0 rfl) ?_
          refine wd_get hC i8 hW 0 wC_c0 rfl 8 (Nat.le_of_ble_eq_true rfl) f61 rfl rfl dX8_bombs_47 ?_
          refine lv_iload hx hb dX8_bombs_50 (lv_at hl 4 rfl) ?_
          refine lv_aload_n hx hb dX8_bombs_52 rfl (lv_at hl 0 rfl) ?_
          refine lv_iload_n hx hb dX8_bombs_53 rfl (lv_at hl 1 rfl) ?_
          refine lv_iload hx hb dX8_bombs_54 (lv_at hl 4 rfl) ?_
          refine lv_aload_n hx hb dX8_bombs_56 rfl (lv_at hl 3 rfl) ?_
          refine lv_iload hx hb dX8_bombs_57 (lv_at hl 4 rfl) ?_
          refine lv_iconst (v := 3) hx hb dX8_bombs_59 (by decide) ?_
          refine lv_imul hx hb dX8_bombs_60 ?_
          obtain ⟨hi12, h⟩ := ck_of h
          refine wd_iald hC hW (6 + 3 * x3) (wC_Lp hx3) hi12 dX8_bombs_61 ?_
          refine lv_aload_n hx hb dX8_bombs_62 rfl (lv_at hl 3 rfl) ?_
          refine lv_iload hx hb dX8_bombs_63 (lv_at hl 4 rfl) ?_
          refine lv_iconst (v := 3) hx hb dX8_bombs_65 (by decide) ?_
          refine lv_imul hx hb dX8_bombs_66 ?_
          refine lv_iconst (v := 2) hx hb dX8_bombs_67 (by decide) ?_
          refine lv_iadd hx hb dX8_bombs_68 ?_
          obtain ⟨hi13, h⟩ := ck_of h
          refine wd_iald hC hW (6 + 3 * x3) (wC_Lp hx3) hi13 dX8_bombs_69 ?_
          obtain ⟨r14, hr15, h⟩ := bd_of h
          refine wd_callV1 (As := [.int x1, .int x4, .int (S.2.1 (6 + 3 * x3) (x4 * 3).toNatClampNeg), .int (S.2.1 (6 + 3 * x3) ((x4 * 3) + 2).toNatClampNeg)]) hC hW 0 wC_c0 rfl (c_X8_allFail l D cy ad X n S x1 x4 (S.2.1 (6 + 3 * x3) (x4 * 3).toNatClampNeg) (S.2.1 (6 + 3 * x3) ((x4 * 3) + 2).toNatClampNeg) r14 hr15) (cwV 4 hts (gu_V w_33_23 w_33_20 w_33_21 w_33_22 w_1_2) rfl rfl rfl hdX8_allFail ⟨Nat.le_of_ble_eq_true rfl, Nat.le_of_ble_eq_true rfl⟩) rfl hl.1 rfl (Nat.le_of_ble_eq_true rfl) ⟨Nat.zero_le _, Nat.zero_le _⟩ dX8_bombs_70 (fun H locs hW => ?_)
          refine lv_i2l (v := r14.toInt64) hx hb dX8_bombs_73 rfl ?_
          obtain ⟨hi16, h⟩ := ck_of h
          refine wd_last hC hW 58 wC_c58 hi16 wC_t58 dX8_bombs_74 (fun H locs hW => ?_)
          obtain ⟨S17, e18, h⟩ := nm_of h
          replace hW := wq_S e18 hW
          refine lv_iinc (v := x4 + 1) (lv' := [(4, .int (x4 + 1)), (0, .ref (ad 0)), (1, .int x1), (2, .int x2), (3, .ref (ad (6 + 3 * x3)))]) hx hb dX8_bombs_75 hl (k := 4) rfl rfl (by decide) rfl (fun ls hl => ?_)
          refine lv_goto (tgt := 40) hx hb dX8_bombs_78 (by decide) ?_
          exact ih S17 x1 x2 x3 (x4 + 1) hx3 _ _ _ r h hW (lv_sub hl [1, 2, 3, 4, 0] rfl) kk
    obtain ⟨q9, hq10, h⟩ := bd_of h
    refine hL40 n r6.2 p0 (1000000 - r6.1) p0.toNatClampNeg 0 (in_lt hi8) _ _ _ q9 hq10 hW (lv_sub hl [3, 4, 2, 1, 0] rfl) (fun H locs ls hW hl => ?_)
    refine lv_aload_n hx hb dX8_bombs_81 rfl (lv_at hl 0 rfl) ?_
    refine lv_iconst (v := 3) hx hb dX8_bombs_82 (by decide) ?_
    refine wd_put hC i8 tyX8_ok nmX8 hW 0 wC_c0 rfl 9 (Nat.le_of_ble_eq_true rfl) f65 rfl rfl rfl rfl (Nat.le_of_ble_eq_true rfl) wC_s0_9 dX8_bombs_83 (fun H locs hW => ?_)
    obtain ⟨S19, e20, h⟩ := nm_of h
    replace hW := wq_S e20 hW
    refine lv_iload_n hx hb dX8_bombs_86 rfl (lv_at hl 2 rfl) ?_
    obtain rfl := Option.some.inj h
    exact wd_iret hA hQ hC hr hk hW dX8_bombs_87
  · replace h := ite_t h c3
    refine lv_iconst (v := (-1)) hx hb dX8_bombs_8 (by decide) ?_
    obtain rfl := Option.some.inj h
    exact wd_iret hA hQ hC hr hk hW dX8_bombs_9
