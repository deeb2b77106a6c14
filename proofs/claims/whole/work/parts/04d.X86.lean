theorem hdX4_placeOf : yX4_placeOf.cls = RX4 ∧ yX4_placeOf.cls ≠ "java/lang/invoke/MethodHandle" ∧ yX4_placeOf.cls ≠ "java/lang/invoke/VarHandle" ∧ (parseMethodDescriptor yX4_placeOf.desc).map (fun d => d.parameters.length) = some 1 := by decide +kernel
theorem hdX8_isLoad : yX8_isLoad.cls ≠ "java/lang/invoke/MethodHandle" ∧ yX8_isLoad.cls ≠ "java/lang/invoke/VarHandle" ∧ (parseMethodDescriptor yX8_isLoad.desc).map (fun d => d.parameters.length) = some 1 := by decide +kernel
def m_X8_isLift (S : St) (p0 : Int32) : Option (Int32) :=
  if p0 < 0 then (some 0) else (if 3 ≤ p0 then (some 0) else (some 1))
set_option maxHeartbeats 4000000 in
set_option maxRecDepth 100000 in
theorem c_X8_isLift (l : Launch) (D : va_G) (cy : Nat → ClassId) (ad : Nat → Nat) (X : va_W) (S : St) (p0 : Int32) (r : (Int32)) (h : m_X8_isLift S p0 = some r) : CT l yX8_isLift wsX8_isLift 0 D cy [.int p0] (wC ad cy S ++ X) (some (.int r)) (wC ad cy S ++ X) := by
  refine CT.mk (cc := cX8_isLift) (maxL := 1) (ret := (some .boolean)) (own := RX8) (by decide) rfl rfl (Nat.le_of_ble_eq_true rfl) ?_
  intro p e s m args below meth c ls A Q hA hQ hC hr hk hW hl
  have hx := hC.1
  have hb := hC.2.1
  have hown := hC.2.2.2.1
  have hts := hC.2.2.2.2
  have hl : lv_has ls 1 [(0, .int p0)] := hl
  unfold m_X8_isLift at h
  refine lv_iload_n hx hb dX8_isLift_0 rfl (lv_at hl 0 rfl) ?_
  refine lv_if_lt (tgt := 13) hx hb dX8_isLift_1 (by decide) (fun c1 => ?_) (fun c1 => ?_)
  · replace h := ite_t h c1
    refine lv_iconst (v := 0) hx hb dX8_isLift_13 (by decide) ?_
    obtain rfl := Option.some.inj h
    exact wd_zret hA hQ hC hr hk hW rfl dX8_isLift_14
  · replace h := ite_f h c1
    refine lv_iload_n hx hb dX8_isLift_4 rfl (lv_at hl 0 rfl) ?_
    refine lv_iconst (v := 3) hx hb dX8_isLift_5 (by decide) ?_
    refine lv_icmp_ge (tgt := 13) hx hb dX8_isLift_6 (by decide) (fun c2 => ?_) (fun c2 => ?_)
    · replace h := ite_t h c2
      refine lv_iconst (v := 0) hx hb dX8_isLift_13 (by decide) ?_
      obtain rfl := Option.some.inj h
      exact wd_zret hA hQ hC hr hk hW rfl dX8_isLift_14
    · replace h := ite_f h c2
      refine lv_iconst (v := 1) hx hb dX8_isLift_9 (by decide) ?_
      refine lv_goto (tgt := 14) hx hb dX8_isLift_10 (by decide) ?_
      obtain rfl := Option.some.inj h
      exact wd_zret hA hQ hC hr hk hW rfl dX8_isLift_14
def m_X8_isLoad (S : St) (p0 : Int32) : Option (Int32) :=
  if p0 < 1 then (some 0) else (if 40 < p0 then (some 0) else (some 1))
set_option maxHeartbeats 4000000 in
set_option maxRecDepth 100000 in
theorem c_X8_isLoad (l : Launch) (D : va_G) (cy : Nat → ClassId) (ad : Nat → Nat) (X : va_W) (S : St) (p0 : Int32) (r : (Int32)) (h : m_X8_isLoad S p0 = some r) : CT l yX8_isLoad wsX8_isLoad 0 D cy [.int p0] (wC ad cy S ++ X) (some (.int r)) (wC ad cy S ++ X) := by
  refine CT.mk (cc := cX8_isLoad) (maxL := 1) (ret := (some .boolean)) (own := RX8) (by decide) rfl rfl (Nat.le_of_ble_eq_true rfl) ?_
  intro p e s m args below meth c ls A Q hA hQ hC hr hk hW hl
  have hx := hC.1
  have hb := hC.2.1
  have hown := hC.2.2.2.1
  have hts := hC.2.2.2.2
  have hl : lv_has ls 1 [(0, .int p0)] := hl
  unfold m_X8_isLoad at h
  refine lv_iload_n hx hb dX8_isLoad_0 rfl (lv_at hl 0 rfl) ?_
  refine lv_iconst (v := 1) hx hb dX8_isLoad_1 (by decide) ?_
  refine lv_icmp_lt (tgt := 15) hx hb dX8_isLoad_2 (by decide) (fun c1 => ?_) (fun c1 => ?_)
  · replace h := ite_t h c1
    refine lv_iconst (v := 0) hx hb dX8_isLoad_15 (by decide) ?_
    obtain rfl := Option.some.inj h
    exact wd_zret hA hQ hC hr hk hW rfl dX8_isLoad_16
  · replace h := ite_f h c1
    refine lv_iload_n hx hb dX8_isLoad_5 rfl (lv_at hl 0 rfl) ?_
    refine lv_bipush (v := 40) hx hb dX8_isLoad_6 (by decide) ?_
    refine lv_icmp_gt (tgt := 15) hx hb dX8_isLoad_8 (by decide) (fun c2 => ?_) (fun c2 => ?_)
    · replace h := ite_t h c2
      refine lv_iconst (v := 0) hx hb dX8_isLoad_15 (by decide) ?_
      obtain rfl := Option.some.inj h
      exact wd_zret hA hQ hC hr hk hW rfl dX8_isLoad_16
    · replace h := ite_f h c2
      refine lv_iconst (v := 1) hx hb dX8_isLoad_11 (by decide) ?_
      refine lv_goto (tgt := 16) hx hb dX8_isLoad_12 (by decide) ?_
      obtain rfl := Option.some.inj h
      exact wd_zret hA hQ hC hr hk hW rfl dX8_isLoad_16
def m_X8_isAimed (S : St) (p0 : Int32) : Option (Int32) :=
  if p0 < 0 then (some 0) else (if 121 < p0 then (some 0) else (some 1))
set_option maxHeartbeats 4000000 in
set_option maxRecDepth 100000 in
theorem c_X8_isAimed (l : Launch) (D : va_G) (cy : Nat → ClassId) (ad : Nat → Nat) (X : va_W) (S : St) (p0 : Int32) (r : (Int32)) (h : m_X8_isAimed S p0 = some r) : CT l yX8_isAimed wsX8_isAimed 0 D cy [.int p0] (wC ad cy S ++ X) (some (.int r)) (wC ad cy S ++ X) := by
  refine CT.mk (cc := cX8_isAimed) (maxL := 1) (ret := (some .boolean)) (own := RX8) (by decide) rfl rfl (Nat.le_of_ble_eq_true rfl) ?_
  intro p e s m args below meth c ls A Q hA hQ hC hr hk hW hl
  have hx := hC.1
  have hb := hC.2.1
  have hown := hC.2.2.2.1
  have hts := hC.2.2.2.2
  have hl : lv_has ls 1 [(0, .int p0)] := hl
  unfold m_X8_isAimed at h
  refine lv_iload_n hx hb dX8_isAimed_0 rfl (lv_at hl 0 rfl) ?_
  refine lv_if_lt (tgt := 14) hx hb dX8_isAimed_1 (by decide) (fun c1 => ?_) (fun c1 => ?_)
  · replace h := ite_t h c1
    refine lv_iconst (v := 0) hx hb dX8_isAimed_14 (by decide) ?_
    obtain rfl := Option.some.inj h
    exact wd_zret hA hQ hC hr hk hW rfl dX8_isAimed_15
  · replace h := ite_f h c1
    refine lv_iload_n hx hb dX8_isAimed_4 rfl (lv_at hl 0 rfl) ?_
    refine lv_bipush (v := 121) hx hb dX8_isAimed_5 (by decide) ?_
    refine lv_icmp_gt (tgt := 14) hx hb dX8_isAimed_7 (by decide) (fun c2 => ?_) (fun c2 => ?_)
    · replace h := ite_t h c2
      refine lv_iconst (v := 0) hx hb dX8_isAimed_14 (by decide) ?_
      obtain rfl := Option.some.inj h
      exact wd_zret hA hQ hC hr hk hW rfl dX8_isAimed_15
    · replace h := ite_f h c2
      refine lv_iconst (v := 1) hx hb dX8_isAimed_10 (by decide) ?_
      refine lv_goto (tgt := 15) hx hb dX8_isAimed_11 (by decide) ?_
      obtain rfl := Option.some.inj h
      exact wd_zret hA hQ hC hr hk hW rfl dX8_isAimed_15
def m_X8_isPlan (S : St) (p0 : Int32) (p1 : Int32) : Option (Int32) :=
  if p0 = 0 then ((m_X8_isLoad S p1).bind (fun r2 => ckb r2 (some r2))) else (if p0 = 1 then (if p1 < 1 then (some 0) else (if 9 < p1 then (some 0) else (some 1))) else (if p0 = 2 then (if p1 < 0 then (some 0) else (if 9 < p1 then (some 0) else (some 1))) else (some 0)))
set_option maxHeartbeats 4000000 in
set_option maxRecDepth 100000 in
theorem c_X8_isPlan (l : Launch) (D : va_G) (cy : Nat → ClassId) (ad : Nat → Nat) (X : va_W) (S : St) (p0 : Int32) (p1 : Int32) (r : (Int32)) (h : m_X8_isPlan S p0 p1 = some r) : CT l yX8_isPlan wsX8_isPlan 1 D cy [.int p0, .int p1] (wC ad cy S ++ X) (some (.int r)) (wC ad cy S ++ X) := by
  refine CT.mk (cc := cX8_isPlan) (maxL := 2) (ret := (some .boolean)) (own := RX8) (by decide) rfl rfl (Nat.le_of_ble_eq_true rfl) ?_
  intro p e s m args below meth c ls A Q hA hQ hC hr hk hW hl
  have hx := hC.1
  have hb := hC.2.1
  have hown := hC.2.2.2.1
  have hts := hC.2.2.2.2
  have hl : lv_has ls 2 [(0, .int p0), (1, .int p1)] := hl
  unfold m_X8_isPlan at h
  refine lv_iload_n hx hb dX8_isPlan_0 rfl (lv_at hl 0 rfl) ?_
  by_cases c1 : p0 = 0
  · replace h := ite_t h c1
    refine lv_tableIn (tgt := 28) hx hb dX8_isPlan_1 (by rw [c1]; decide) (by rw [c1]; decide) (by rw [c1]; rfl) (by decide) ?_
    refine lv_iload_n hx hb dX8_isPlan_28 rfl (lv_at hl 1 rfl) ?_
    obtain ⟨r2, hr3, h⟩ := bd_of h
    refine wd_callS1 (As := [.int p1]) hC hW (c_X8_isLoad l D cy ad X S p1 r2 hr3) (va_cwS 1 hts gX8_isPlan_X8_isLoad rfl rfl rfl hdX8_isLoad ⟨Nat.le_of_ble_eq_true rfl, Nat.le_of_ble_eq_true rfl⟩) rfl hl.1 rfl (Nat.le_of_ble_eq_true rfl) ⟨Nat.zero_le _, Nat.zero_le _⟩ dX8_isPlan_29 (fun H locs hW => ?_)
    obtain ⟨hb4, h⟩ := ckb_of h
    obtain rfl := Option.some.inj h
    exact wd_zret hA hQ hC hr hk hW (ckb_nar hb4) dX8_isPlan_32
  replace h := ite_f h c1
  by_cases c5 : p0 = 1
  · replace h := ite_t h c5
    refine lv_tableIn (tgt := 33) hx hb dX8_isPlan_1 (by rw [c5]; decide) (by rw [c5]; decide) (by rw [c5]; rfl) (by decide) ?_
    refine lv_iload_n hx hb dX8_isPlan_33 rfl (lv_at hl 1 rfl) ?_
    refine lv_iconst (v := 1) hx hb dX8_isPlan_34 (by decide) ?_
    refine lv_icmp_lt (tgt := 48) hx hb dX8_isPlan_35 (by decide) (fun c6 => ?_) (fun c6 => ?_)
    · replace h := ite_t h c6
      refine lv_iconst (v := 0) hx hb dX8_isPlan_48 (by decide) ?_
      obtain rfl := Option.some.inj h
      exact wd_zret hA hQ hC hr hk hW rfl dX8_isPlan_49
    · replace h := ite_f h c6
      refine lv_iload_n hx hb dX8_isPlan_38 rfl (lv_at hl 1 rfl) ?_
      refine lv_bipush (v := 9) hx hb dX8_isPlan_39 (by decide) ?_
      refine lv_icmp_gt (tgt := 48) hx hb dX8_isPlan_41 (by decide) (fun c7 => ?_) (fun c7 => ?_)
      · replace h := ite_t h c7
        refine lv_iconst (v := 0) hx hb dX8_isPlan_48 (by decide) ?_
        obtain rfl := Option.some.inj h
        exact wd_zret hA hQ hC hr hk hW rfl dX8_isPlan_49
      · replace h := ite_f h c7
        refine lv_iconst (v := 1) hx hb dX8_isPlan_44 (by decide) ?_
        refine lv_goto (tgt := 49) hx hb dX8_isPlan_45 (by decide) ?_
        obtain rfl := Option.some.inj h
        exact wd_zret hA hQ hC hr hk hW rfl dX8_isPlan_49
  replace h := ite_f h c5
  by_cases c8 : p0 = 2
  · replace h := ite_t h c8
    refine lv_tableIn (tgt := 50) hx hb dX8_isPlan_1 (by rw [c8]; decide) (by rw [c8]; decide) (by rw [c8]; rfl) (by decide) ?_
    refine lv_iload_n hx hb dX8_isPlan_50 rfl (lv_at hl 1 rfl) ?_
    refine lv_if_lt (tgt := 64) hx hb dX8_isPlan_51 (by decide) (fun c9 => ?_) (fun c9 => ?_)
    · replace h := ite_t h c9
      refine lv_iconst (v := 0) hx hb dX8_isPlan_64 (by decide) ?_
      obtain rfl := Option.some.inj h
      exact wd_zret hA hQ hC hr hk hW rfl dX8_isPlan_65
    · replace h := ite_f h c9
      refine lv_iload_n hx hb dX8_isPlan_54 rfl (lv_at hl 1 rfl) ?_
      refine lv_bipush (v := 9) hx hb dX8_isPlan_55 (by decide) ?_
      refine lv_icmp_gt (tgt := 64) hx hb dX8_isPlan_57 (by decide) (fun c10 => ?_) (fun c10 => ?_)
      · replace h := ite_t h c10
        refine lv_iconst (v := 0) hx hb dX8_isPlan_64 (by decide) ?_
        obtain rfl := Option.some.inj h
        exact wd_zret hA hQ hC hr hk hW rfl dX8_isPlan_65
      · replace h := ite_f h c10
        refine lv_iconst (v := 1) hx hb dX8_isPlan_60 (by decide) ?_
        refine lv_goto (tgt := 65) hx hb dX8_isPlan_61 (by decide) ?_
        obtain rfl := Option.some.inj h
        exact wd_zret hA hQ hC hr hk hW rfl dX8_isPlan_65
  replace h := ite_f h c8
  have hsw : p0.toInt < 0 ∨ 2 < p0.toInt := by
    have := lv_neT c1 (rfl : (0 : Int32).toInt = 0)
    have := lv_neT c5 (rfl : (1 : Int32).toInt = 1)
    have := lv_neT c8 (rfl : (2 : Int32).toInt = 2)
    omega
  refine lv_tableOut (tgt := 66) hx hb dX8_isPlan_1 hsw (by decide) ?_
  refine lv_iconst (v := 0) hx hb dX8_isPlan_66 (by decide) ?_
  obtain rfl := Option.some.inj h
  exact wd_zret hA hQ hC hr hk hW rfl dX8_isPlan_67
def m_X8_mix (S : St) (p0 : Int32) (p1 : Int32) (p2 : Int32) : Option (Int32) :=
  some (((p0 * p1) + ((1000 - p0) * p2)) / 1000)
set_option maxHeartbeats 4000000 in
set_option maxRecDepth 100000 in
theorem c_X8_mix (l : Launch) (D : va_G) (cy : Nat → ClassId) (ad : Nat → Nat) (X : va_W) (S : St) (p0 : Int32) (p1 : Int32) (p2 : Int32) (r : (Int32)) (h : m_X8_mix S p0 p1 p2 = some r) : CT l yX8_mix wsX8_mix 0 D cy [.int p0, .int p1, .int p2] (wC ad cy S ++ X) (some (.int r)) (wC ad cy S ++ X) := by
  refine CT.mk (cc := cX8_mix) (maxL := 3) (ret := (some .int)) (own := RX8) (by decide) rfl rfl (Nat.le_of_ble_eq_true rfl) ?_
  intro p e s m args below meth c ls A Q hA hQ hC hr hk hW hl
  have hx := hC.1
  have hb := hC.2.1
  have hown := hC.2.2.2.1
  have hts := hC.2.2.2.2
  have hl : lv_has ls 3 [(0, .int p0), (1, .int p1), (2, .int p2)] := hl
  unfold m_X8_mix at h
  refine lv_iload_n hx hb dX8_mix_0 rfl (lv_at hl 0 rfl) ?_
  refine lv_iload_n hx hb dX8_mix_1 rfl (lv_at hl 1 rfl) ?_
  refine lv_imul hx hb dX8_mix_2 ?_
  refine lv_sipush (v := 1000) hx hb dX8_mix_3 (by decide) ?_
  refine lv_iload_n hx hb dX8_mix_6 rfl (lv_at hl 0 rfl) ?_
  refine lv_isub hx hb dX8_mix_7 ?_
  refine lv_iload_n hx hb dX8_mix_8 rfl (lv_at hl 2 rfl) ?_
  refine lv_imul hx hb dX8_mix_9 ?_
  refine lv_iadd hx hb dX8_mix_10 ?_
  refine lv_sipush (v := 1000) hx hb dX8_mix_11 (by decide) ?_
  refine lv_idiv hx hb dX8_mix_14 (by decide) ?_
  obtain rfl := Option.some.inj h
  exact wd_iret hA hQ hC hr hk hW dX8_mix_15
def m_X8_isLifter (S : St) (p0 : Int32) : Option (Int32) :=
  if p0 < 0 then (some 0) else (if (S.1 30) ≤ p0 then (some 0) else (some 1))
set_option maxHeartbeats 4000000 in
set_option maxRecDepth 100000 in
theorem c_X8_isLifter (l : Launch) (D : va_G) (cy : Nat → ClassId) (ad : Nat → Nat) (X : va_W) (S : St) (p0 : Int32) (r : (Int32)) (h : m_X8_isLifter S p0 = some r) : CT l yX8_isLifter wsX8_isLifter 0 D cy [.ref (ad 0), .int p0] (wC ad cy S ++ X) (some (.int r)) (wC ad cy S ++ X) := by
  refine CT.mk (cc := cX8_isLifter) (maxL := 2) (ret := (some .boolean)) (own := RX8) (by decide) rfl rfl (Nat.le_of_ble_eq_true rfl) ?_
  intro p e s m args below meth c ls A Q hA hQ hC hr hk hW hl
  have hx := hC.1
  have hb := hC.2.1
  have hown := hC.2.2.2.1
  have hts := hC.2.2.2.2
  have hl : lv_has ls 2 [(0, .ref (ad 0)), (1, .int p0)] := hl
  have f28 := hts (.fieldLink RX8 28 "NextLoad" "meet" "LNextLoad$Meet;") (by decide +kernel)
  have i8 := (by decide +kernel : ∀ w ∈ u_ws RX8 TX8 12, w ∈ wsX8_isLifter)
  have f87 := hts (.fieldLink RX8 87 "NextLoad$Meet" "size" "I") (by decide +kernel)
  have i4 := (by decide +kernel : ∀ w ∈ u_ws RX4 TX4 16, w ∈ wsX8_isLifter)
  unfold m_X8_isLifter at h
  refine lv_iload_n hx hb dX8_isLifter_0 rfl (lv_at hl 1 rfl) ?_
  refine lv_if_lt (tgt := 19) hx hb dX8_isLifter_1 (by decide) (fun c1 => ?_) (fun c1 => ?_)
  · replace h := ite_t h c1
    refine lv_iconst (v := 0) hx hb dX8_isLifter_19 (by decide) ?_
    obtain rfl := Option.some.inj h
    exact wd_zret hA hQ hC hr hk hW rfl dX8_isLifter_20
  · replace h := ite_f h c1
    refine lv_iload_n hx hb dX8_isLifter_4 rfl (lv_at hl 1 rfl) ?_
    refine lv_aload_n hx hb dX8_isLifter_5 rfl (lv_at hl 0 rfl) ?_
    refine wd_get hC i8 hW 0 wC_c0 rfl 2 (Nat.le_of_ble_eq_true rfl) f28 rfl rfl dX8_isLifter_6 ?_
    refine wd_get hC i4 hW 25 wC_c25 rfl 1 (Nat.le_of_ble_eq_true rfl) f87 rfl rfl dX8_isLifter_9 ?_
    refine lv_icmp_ge (tgt := 19) hx hb dX8_isLifter_12 (by decide) (fun c2 => ?_) (fun c2 => ?_)
    · replace h := ite_t h c2
      refine lv_iconst (v := 0) hx hb dX8_isLifter_19 (by decide) ?_
      obtain rfl := Option.some.inj h
      exact wd_zret hA hQ hC hr hk hW rfl dX8_isLifter_20
    · replace h := ite_f h c2
      refine lv_iconst (v := 1) hx hb dX8_isLifter_15 (by decide) ?_
      refine lv_goto (tgt := 20) hx hb dX8_isLifter_16 (by decide) ?_
      obtain rfl := Option.some.inj h
      exact wd_zret hA hQ hC hr hk hW rfl dX8_isLifter_20
def m_X8_tellTwo (S : St) (p0 : Int32) (p1 : Int32) : Option (St) :=
  ck 0 9 (nm (sJ S 58 0.toNatClampNeg p0.toInt64) (fun S2 => ck 1 9 (nm (sJ S2 58 1.toNatClampNeg p1.toInt64) (fun S5 => nm (sI S5 0 2) (fun S7 => some S7)))))
set_option maxHeartbeats 4000000 in
set_option maxRecDepth 100000 in
theorem c_X8_tellTwo (l : Launch) (D : va_G) (cy : Nat → ClassId) (ad : Nat → Nat) (X : va_W) (S : St) (p0 : Int32) (p1 : Int32) (r : (St)) (h : m_X8_tellTwo S p0 p1 = some r) : CT l yX8_tellTwo wsX8_tellTwo 0 D cy [.ref (ad 0), .int p0, .int p1] (wC ad cy S ++ X) (none) (wC ad cy r ++ X) := by
  refine CT.mk (cc := cX8_tellTwo) (maxL := 3) (ret := none) (own := RX8) (by decide) rfl rfl (Nat.le_of_ble_eq_true rfl) ?_
  intro p e s m args below meth c ls A Q hA hQ hC hr hk hW hl
  have hx := hC.1
  have hb := hC.2.1
  have hown := hC.2.2.2.1
  have hts := hC.2.2.2.2
  have hl : lv_has ls 3 [(0, .ref (ad 0)), (1, .int p0), (2, .int p1)] := hl
  have f61 := hts (.fieldLink RX8 61 "NextLoad" "numbers" "[J") (by decide +kernel)
  have i8 := (by decide +kernel : ∀ w ∈ u_ws RX8 TX8 12, w ∈ wsX8_tellTwo)
  have f65 := hts (.fieldLink RX8 65 "NextLoad" "told" "I") (by decide +kernel)
  unfold m_X8_tellTwo at h
  refine lv_aload_n hx hb dX8_tellTwo_0 rfl (lv_at hl 0 rfl) ?_
  refine wd_get hC i8 hW 0 wC_c0 rfl 8 (Nat.le_of_ble_eq_true rfl) f61 rfl rfl dX8_tellTwo_1 ?_
  refine lv_iconst (v := 0) hx hb dX8_tellTwo_4 (by decide) ?_
  refine lv_iload_n hx hb dX8_tellTwo_5 rfl (lv_at hl 1 rfl) ?_
  refine lv_i2l (v := p0.toInt64) hx hb dX8_tellTwo_6 rfl ?_
  obtain ⟨hi1, h⟩ := ck_of h
  refine wd_last hC hW 58 wC_c58 hi1 wC_t58 dX8_tellTwo_7 (fun H locs hW => ?_)
  obtain ⟨S2, e3, h⟩ := nm_of h
  replace hW := wq_S e3 hW
  refine lv_aload_n hx hb dX8_tellTwo_8 rfl (lv_at hl 0 rfl) ?_
  refine wd_get hC i8 hW 0 wC_c0 rfl 8 (Nat.le_of_ble_eq_true rfl) f61 rfl rfl dX8_tellTwo_9 ?_
  refine lv_iconst (v := 1) hx hb dX8_tellTwo_12 (by decide) ?_
  refine lv_iload_n hx hb dX8_tellTwo_13 rfl (lv_at hl 2 rfl) ?_
  refine lv_i2l (v := p1.toInt64) hx hb dX8_tellTwo_14 rfl ?_
  obtain ⟨hi4, h⟩ := ck_of h
  refine wd_last hC hW 58 wC_c58 hi4 wC_t58 dX8_tellTwo_15 (fun H locs hW => ?_)
  obtain ⟨S5, e6, h⟩ := nm_of h
  replace hW := wq_S e6 hW
  refine lv_aload_n hx hb dX8_tellTwo_16 rfl (lv_at hl 0 rfl) ?_
  refine lv_iconst (v := 2) hx hb dX8_tellTwo_17 (by decide) ?_
  refine wd_put hC i8 tyX8_ok nmX8 hW 0 wC_c0 rfl 9 (Nat.le_of_ble_eq_true rfl) f65 rfl rfl rfl rfl (Nat.le_of_ble_eq_true rfl) wC_s0_9 dX8_tellTwo_18 (fun H locs hW => ?_)
  obtain ⟨S7, e8, h⟩ := nm_of h
  replace hW := wq_S e8 hW
  obtain rfl := Option.some.inj h
  exact wd_vret hA hQ hC hr hk hW dX8_tellTwo_21
def m_X8_tellPlaces_L2 : Nat → St → Int32 → Option (St)
  | 0, _, _ => none
  | n + 1, S, x1 =>
    if (S.1 30) ≤ x1 then (some S) else ((m_X4_placeOf 30 25 n S x1).bind (fun r4 => ck r4 9 (nm (sJ S 58 r4.toNatClampNeg x1.toInt64) (fun S7 => m_X8_tellPlaces_L2 n S7 (x1 + 1)))))
theorem m_X8_tellPlaces_L2_0 (S : St) (x1 : Int32) : m_X8_tellPlaces_L2 0 S x1 = none := rfl
theorem m_X8_tellPlaces_L2_s {n : Nat} {S : St} {x1 : Int32} : m_X8_tellPlaces_L2 (n + 1) S x1 =
    (if (S.1 30) ≤ x1 then (some S) else ((m_X4_placeOf 30 25 n S x1).bind (fun r4 => ck r4 9 (nm (sJ S 58 r4.toNatClampNeg x1.toInt64) (fun S7 => m_X8_tellPlaces_L2 n S7 (x1 + 1)))))) := rfl
def m_X8_tellPlaces (n : Nat) (S : St) : Option (St) :=
  (m_X8_tellPlaces_L2 n S 0).bind (fun q1 => nm (sI q1 0 (q1.1 30)) (fun S9 => some S9))
set_option maxHeartbeats 4000000 in
set_option maxRecDepth 100000 in
theorem c_X8_tellPlaces (l : Launch) (D : va_G) (cy : Nat → ClassId) (ad : Nat → Nat) (X : va_W) (n : Nat) (S : St) (r : (St)) (h : m_X8_tellPlaces n S = some r) : CT l yX8_tellPlaces wsX8_tellPlaces 3 D cy [.ref (ad 0)] (wC ad cy S ++ X) (none) (wC ad cy r ++ X) := by
  refine CT.mk (cc := cX8_tellPlaces) (maxL := 2) (ret := none) (own := RX8) (by decide) rfl rfl (Nat.le_of_ble_eq_true rfl) ?_
  intro p e s m args below meth c ls A Q hA hQ hC hr hk hW hl
  have hx := hC.1
  have hb := hC.2.1
  have hown := hC.2.2.2.1
  have hts := hC.2.2.2.2
  have hl : lv_has ls 2 [(0, .ref (ad 0))] := hl
  have f28 := hts (.fieldLink RX8 28 "NextLoad" "meet" "LNextLoad$Meet;") (by decide +kernel)
  have i8 := (by decide +kernel : ∀ w ∈ u_ws RX8 TX8 12, w ∈ wsX8_tellPlaces)
  have f87 := hts (.fieldLink RX8 87 "NextLoad$Meet" "size" "I") (by decide +kernel)
  have i4 := (by decide +kernel : ∀ w ∈ u_ws RX4 TX4 16, w ∈ wsX8_tellPlaces)
  have f61 := hts (.fieldLink RX8 61 "NextLoad" "numbers" "[J") (by decide +kernel)
  have f65 := hts (.fieldLink RX8 65 "NextLoad" "told" "I") (by decide +kernel)
  unfold m_X8_tellPlaces at h
  refine lv_iconst (v := 0) hx hb dX8_tellPlaces_0 (by decide) ?_
  refine lv_istore_n (lv' := [(1, .int 0), (0, .ref (ad 0))]) hx hb dX8_tellPlaces_1 rfl hl (by decide) rfl (fun ls hl => ?_)
  have hL2 : ∀ (n : Nat) (S : St) (x1 : Int32)  (H : Heap) (locs : List Loc) (ls : Array Slot) (r : (St)), m_X8_tellPlaces_L2 n S x1 = some r → Wd D cy A s (wC ad cy S ++ X) H locs → lv_has ls 2 [(0, .ref (ad 0)), (1, .int x1)] → (∀ (H : Heap) (locs : List Loc) (ls : Array Slot), Wd D cy A s (wC ad cy r ++ X) H locs → lv_has ls 2 [(0, .ref (ad 0))] → W p l e (RM 3) s m args below meth c H locs 0 0 Q (F0 m 34 ls [])) → W p l e (RM 3) s m args below meth c H locs 0 0 Q (F0 m 2 ls []) := by
    intro n
    induction n with
    | zero =>
      intro S x1  H locs ls r h
      exact absurd (h.symm.trans (m_X8_tellPlaces_L2_0 ..)) (by simp)
    | succ n ih =>
      intro S x1  H locs ls r h hW hl kk
      rw [m_X8_tellPlaces_L2_s] at h
      refine lv_iload_n hx hb dX8_tellPlaces_2 rfl (lv_at hl 1 rfl) ?_
      refine lv_aload_n hx hb dX8_tellPlaces_3 rfl (lv_at hl 0 rfl) ?_
      refine wd_get hC i8 hW 0 wC_c0 rfl 2 (Nat.le_of_ble_eq_true rfl) f28 rfl rfl dX8_tellPlaces_4 ?_
      refine wd_get hC i4 hW 25 wC_c25 rfl 1 (Nat.le_of_ble_eq_true rfl) f87 rfl rfl dX8_tellPlaces_7 ?_
      refine lv_icmp_ge (tgt := 34) hx hb dX8_tellPlaces_10 (by decide) (fun c3 => ?_) (fun c3 => ?_)
      · replace h := ite_t h c3
        obtain rfl := Option.some.inj h
        exact kk _ _ _ hW (lv_sub hl [0] rfl)
      · replace h := ite_f h c3
        refine lv_aload_n hx hb dX8_tellPlaces_13 rfl (lv_at hl 0 rfl) ?_
        refine wd_get hC i8 hW 0 wC_c0 rfl 8 (Nat.le_of_ble_eq_true rfl) f61 rfl rfl dX8_tellPlaces_14 ?_
        refine lv_aload_n hx hb dX8_tellPlaces_17 rfl (lv_at hl 0 rfl) ?_
        refine wd_get hC i8 hW 0 wC_c0 rfl 2 (Nat.le_of_ble_eq_true rfl) f28 rfl rfl dX8_tellPlaces_18 ?_
        refine lv_iload_n hx hb dX8_tellPlaces_21 rfl (lv_at hl 1 rfl) ?_
        obtain ⟨r4, hr5, h⟩ := bd_of h
        refine wd_callV1 (As := [.int x1]) hC hW 25 wC_c25 rfl (c_X4_placeOfM l D cy ad X n S x1 r4 hr5) (cwV 1 hts gX8_tellPlaces_X4_placeOf rfl rfl rfl hdX4_placeOf ⟨Nat.le_of_ble_eq_true rfl, Nat.le_of_ble_eq_true rfl⟩) rfl hl.1 rfl (Nat.le_of_ble_eq_true rfl) ⟨Nat.zero_le _, Nat.zero_le _⟩ dX8_tellPlaces_22 (fun H locs hW => ?_)
        refine lv_iload_n hx hb dX8_tellPlaces_25 rfl (lv_at hl 1 rfl) ?_
        refine lv_i2l (v := x1.toInt64) hx hb dX8_tellPlaces_26 rfl ?_
        obtain ⟨hi6, h⟩ := ck_of h
        refine wd_last hC hW 58 wC_c58 hi6 wC_t58 dX8_tellPlaces_27 (fun H locs hW => ?_)
        obtain ⟨S7, e8, h⟩ := nm_of h
        replace hW := wq_S e8 hW
        refine lv_iinc (v := x1 + 1) (lv' := [(1, .int (x1 + 1)), (0, .ref (ad 0))]) hx hb dX8_tellPlaces_28 hl (k := 1) rfl rfl (by decide) rfl (fun ls hl => ?_)
        refine lv_goto (tgt := 2) hx hb dX8_tellPlaces_31 (by decide) ?_
        exact ih S7 (x1 + 1) _ _ _ r h hW (lv_sub hl [1, 0] rfl) kk
  obtain ⟨q1, hq2, h⟩ := bd_of h
  refine hL2 n S 0  _ _ _ q1 hq2 hW (lv_sub hl [1, 0] rfl) (fun H locs ls hW hl => ?_)
  refine lv_aload_n hx hb dX8_tellPlaces_34 rfl (lv_at hl 0 rfl) ?_
  refine lv_aload_n hx hb dX8_tellPlaces_35 rfl (lv_at hl 0 rfl) ?_
  refine wd_get hC i8 hW 0 wC_c0 rfl 2 (Nat.le_of_ble_eq_true rfl) f28 rfl rfl dX8_tellPlaces_36 ?_
  refine wd_get hC i4 hW 25 wC_c25 rfl 1 (Nat.le_of_ble_eq_true rfl) f87 rfl rfl dX8_tellPlaces_39 ?_
  refine wd_put hC i8 tyX8_ok nmX8 hW 0 wC_c0 rfl 9 (Nat.le_of_ble_eq_true rfl) f65 rfl rfl rfl rfl (Nat.le_of_ble_eq_true rfl) wC_s0_9 dX8_tellPlaces_42 (fun H locs hW => ?_)
  obtain ⟨S9, e10, h⟩ := nm_of h
  replace hW := wq_S e10 hW
  obtain rfl := Option.some.inj h
  exact wd_vret hA hQ hC hr hk hW dX8_tellPlaces_45
def m_X8_allFail_L10 : Nat → St → Int32 → Int32 → Int32 → Int32 → Int32 → Int32 → Option (Int32)
  | 0, _, _, _, _, _, _, _ => none
  | n + 1, S, x1, x2, x4, x5, x6, x7 =>
    if 3 ≤ x7 then (some x5) else (if 40 < x6 then (some x5) else (ck x1 7 ((m_X3_oddsOf S x1.toNatClampNeg x2 x6 (x7 * (S.1 31))).bind (fun r6 => m_X8_allFail_L10 n S x1 x2 x4 ((x5 * (1000 - r6)) / 1000) (x6 + x4) (x7 + 1)))))
theorem m_X8_allFail_L10_0 (S : St) (x1 : Int32) (x2 : Int32) (x4 : Int32) (x5 : Int32) (x6 : Int32) (x7 : Int32) : m_X8_allFail_L10 0 S x1 x2 x4 x5 x6 x7 = none := rfl
theorem m_X8_allFail_L10_s {n : Nat} {S : St} {x1 : Int32} {x2 : Int32} {x4 : Int32} {x5 : Int32} {x6 : Int32} {x7 : Int32} : m_X8_allFail_L10 (n + 1) S x1 x2 x4 x5 x6 x7 =
    (if 3 ≤ x7 then (some x5) else (if 40 < x6 then (some x5) else (ck x1 7 ((m_X3_oddsOf S x1.toNatClampNeg x2 x6 (x7 * (S.1 31))).bind (fun r6 => m_X8_allFail_L10 n S x1 x2 x4 ((x5 * (1000 - r6)) / 1000) (x6 + x4) (x7 + 1)))))) := rfl
def m_X8_allFail (n : Nat) (S : St) (p0 : Int32) (p1 : Int32) (p2 : Int32) (p3 : Int32) : Option (Int32) :=
  (m_X8_allFail_L10 n S p0 p1 p3 1000000 p2 0).bind (fun q1 => some q1)
set_option maxHeartbeats 4000000 in
set_option maxRecDepth 100000 in
theorem c_X8_allFail (l : Launch) (D : va_G) (cy : Nat → ClassId) (ad : Nat → Nat) (X : va_W) (n : Nat) (S : St) (p0 : Int32) (p1 : Int32) (p2 : Int32) (p3 : Int32) (r : (Int32)) (h : m_X8_allFail n S p0 p1 p2 p3 = some r) : CT l yX8_allFail wsX8_allFail 2 D cy [.ref (ad 0), .int p0, .int p1, .int p2, .int p3] (wC ad cy S ++ X) (some (.int r)) (wC ad cy S ++ X) := by
  refine CT.mk (cc := cX8_allFail) (maxL := 8) (ret := (some .int)) (own := RX8) (by decide) rfl rfl (Nat.le_of_ble_eq_true rfl) ?_
  intro p e s m args below meth c ls A Q hA hQ hC hr hk hW hl
  have hx := hC.1
  have hb := hC.2.1
  have hown := hC.2.2.2.1
  have hts := hC.2.2.2.2
  have hl : lv_has ls 8 [(0, .ref (ad 0)), (1, .int p0), (2, .int p1), (3, .int p2), (4, .int p3)] := hl
  have k213 := hts (.constant RX8 213 (1000000)) (by decide +kernel)
  have f18 := hts (.fieldLink RX8 18 "NextLoad" "lifters" "[LNextLoad$Lifter;") (by decide +kernel)
  have i8 := (by decide +kernel : ∀ w ∈ u_ws RX8 TX8 12, w ∈ wsX8_allFail)
  have f28 := hts (.fieldLink RX8 28 "NextLoad" "meet" "LNextLoad$Meet;") (by decide +kernel)
  have f111 := hts (.fieldLink RX8 111 "NextLoad$Meet" "tire" "I") (by decide +kernel)
  have i4 := (by decide +kernel : ∀ w ∈ u_ws RX4 TX4 16, w ∈ wsX8_allFail)
  unfold m_X8_allFail at h
  refine lv_ldc hx hb hown k213 dX8_allFail_0 ?_
  refine lv_istore (lv' := [(5, .int 1000000), (0, .ref (ad 0)), (1, .int p0), (2, .int p1), (3, .int p2), (4, .int p3)]) hx hb dX8_allFail_2 hl (by decide) rfl (fun ls hl => ?_)
  refine lv_iload_n hx hb dX8_allFail_4 rfl (lv_at hl 4 rfl) ?_
  refine lv_istore (lv' := [(6, .int p2), (5, .int 1000000), (0, .ref (ad 0)), (1, .int p0), (2, .int p1), (3, .int p2), (4, .int p3)]) hx hb dX8_allFail_5 hl (by decide) rfl (fun ls hl => ?_)
  refine lv_iconst (v := 0) hx hb dX8_allFail_7 (by decide) ?_
  refine lv_istore (lv' := [(7, .int 0), (6, .int p2), (5, .int 1000000), (0, .ref (ad 0)), (1, .int p0), (2, .int p1), (3, .int p2), (4, .int p3)]) hx hb dX8_allFail_8 hl (by decide) rfl (fun ls hl => ?_)
  have hL10 : ∀ (n : Nat) (x1 : Int32) (x2 : Int32) (x4 : Int32) (x5 : Int32) (x6 : Int32) (x7 : Int32)  (H : Heap) (locs : List Loc) (ls : Array Slot) (r : (Int32)), m_X8_allFail_L10 n S x1 x2 x4 x5 x6 x7 = some r → Wd D cy A s (wC ad cy S ++ X) H locs → lv_has ls 8 [(0, .ref (ad 0)), (1, .int x1), (2, .int x2), (4, .int x4), (5, .int x5), (6, .int x6), (7, .int x7)] → (∀ (H : Heap) (locs : List Loc) (ls : Array Slot), Wd D cy A s (wC ad cy S ++ X) H locs → lv_has ls 8 [(0, .ref (ad 0)), (1, .int x1), (2, .int x2), (4, .int x4), (5, .int r)] → W p l e (RM 2) s m args below meth c H locs 0 0 Q (F0 m 71 ls [])) → W p l e (RM 2) s m args below meth c H locs 0 0 Q (F0 m 10 ls []) := by
    intro n
    induction n with
    | zero =>
      intro x1 x2 x4 x5 x6 x7  H locs ls r h
      exact absurd (h.symm.trans (m_X8_allFail_L10_0 ..)) (by simp)
    | succ n ih =>
      intro x1 x2 x4 x5 x6 x7  H locs ls r h hW hl kk
      rw [m_X8_allFail_L10_s] at h
      refine lv_iload hx hb dX8_allFail_10 (lv_at hl 6 rfl) ?_
      refine lv_iconst (v := 3) hx hb dX8_allFail_12 (by decide) ?_
      refine lv_icmp_ge (tgt := 71) hx hb dX8_allFail_13 (by decide) (fun c3 => ?_) (fun c3 => ?_)
      · replace h := ite_t h c3
        obtain rfl := Option.some.inj h
        exact kk _ _ _ hW (lv_sub hl [0, 1, 2, 3, 4] rfl)
      · replace h := ite_f h c3
        refine lv_iload hx hb dX8_allFail_16 (lv_at hl 5 rfl) ?_
        refine lv_bipush (v := 40) hx hb dX8_allFail_18 (by decide) ?_
        refine lv_icmp_gt (tgt := 71) hx hb dX8_allFail_20 (by decide) (fun c4 => ?_) (fun c4 => ?_)
        · replace h := ite_t h c4
          obtain rfl := Option.some.inj h
          exact kk _ _ _ hW (lv_sub hl [0, 1, 2, 3, 4] rfl)
        · replace h := ite_f h c4
          refine lv_iload hx hb dX8_allFail_23 (lv_at hl 4 rfl) ?_
          refine lv_sipush (v := 1000) hx hb dX8_allFail_25 (by decide) ?_
          refine lv_aload_n hx hb dX8_allFail_28 rfl (lv_at hl 0 rfl) ?_
          refine wd_get hC i8 hW 0 wC_c0 rfl 1 (Nat.le_of_ble_eq_true rfl) f18 rfl rfl dX8_allFail_29 ?_
          refine lv_iload_n hx hb dX8_allFail_32 rfl (lv_at hl 1 rfl) ?_
          obtain ⟨hi5, h⟩ := ck_of h
          refine wd_aldq hC hW 3 wC_c3 hi5 rfl dX8_allFail_33 ?_
          refine lv_iload_n hx hb dX8_allFail_34 rfl (lv_at hl 2 rfl) ?_
          refine lv_iload hx hb dX8_allFail_35 (lv_at hl 5 rfl) ?_
          refine lv_iload hx hb dX8_allFail_37 (lv_at hl 6 rfl) ?_
          refine lv_aload_n hx hb dX8_allFail_39 rfl (lv_at hl 0 rfl) ?_
          refine wd_get hC i8 hW 0 wC_c0 rfl 2 (Nat.le_of_ble_eq_true rfl) f28 rfl rfl dX8_allFail_40 ?_
          refine wd_get hC i4 hW 25 wC_c25 rfl 2 (Nat.le_of_ble_eq_true rfl) f111 rfl rfl dX8_allFail_43 ?_
          refine lv_imul hx hb dX8_allFail_46 ?_
          obtain ⟨r6, hr7, h⟩ := bd_of h
          refine wd_callV1 (As := [.int x2, .int x6, .int (x7 * (S.1 31))]) hC hW (4 + 3 * x1.toNatClampNeg) (wC_L (in_lt hi5)) rfl (c_X3_oddsOf l D cy ad X S x1.toNatClampNeg x2 x6 (x7 * (S.1 31)) r6 hr7 (in_lt hi5)) (cwV 3 hts gX8_allFail_X3_oddsOf rfl rfl rfl hdX3_oddsOf ⟨Nat.le_of_ble_eq_true rfl, Nat.le_of_ble_eq_true rfl⟩) rfl hl.1 rfl (Nat.le_of_ble_eq_true rfl) ⟨Nat.zero_le _, Nat.zero_le _⟩ dX8_allFail_47 (fun H locs hW => ?_)
          refine lv_isub hx hb dX8_allFail_50 ?_
          refine lv_imul hx hb dX8_allFail_51 ?_
          refine lv_sipush (v := 1000) hx hb dX8_allFail_52 (by decide) ?_
          refine lv_idiv hx hb dX8_allFail_55 (by decide) ?_
          refine lv_istore (lv' := [(5, .int ((x5 * (1000 - r6)) / 1000)), (0, .ref (ad 0)), (1, .int x1), (2, .int x2), (4, .int x4), (6, .int x6), (7, .int x7)]) hx hb dX8_allFail_56 hl (by decide) rfl (fun ls hl => ?_)
          refine lv_iload hx hb dX8_allFail_58 (lv_at hl 5 rfl) ?_
          refine lv_iload hx hb dX8_allFail_60 (lv_at hl 4 rfl) ?_
          refine lv_iadd hx hb dX8_allFail_62 ?_
          refine lv_istore (lv' := [(6, .int (x6 + x4)), (5, .int ((x5 * (1000 - r6)) / 1000)), (0, .ref (ad 0)), (1, .int x1), (2, .int x2), (4, .int x4), (7, .int x7)]) hx hb dX8_allFail_63 hl (by decide) rfl (fun ls hl => ?_)
          refine lv_iinc (v := x7 + 1) (lv' := [(7, .int (x7 + 1)), (6, .int (x6 + x4)), (5, .int ((x5 * (1000 - r6)) / 1000)), (0, .ref (ad 0)), (1, .int x1), (2, .int x2), (4, .int x4)]) hx hb dX8_allFail_65 hl (k := 6) rfl rfl (by decide) rfl (fun ls hl => ?_)
          refine lv_goto (tgt := 10) hx hb dX8_allFail_68 (by decide) ?_
          exact ih x1 x2 x4 ((x5 * (1000 - r6)) / 1000) (x6 + x4) (x7 + 1) _ _ _ r h hW (lv_sub hl [3, 4, 5, 6, 2, 1, 0] rfl) kk
  obtain ⟨q1, hq2, h⟩ := bd_of h
  refine hL10 n p0 p1 p3 1000000 p2 0  _ _ _ q1 hq2 hW (lv_sub hl [3, 4, 5, 7, 2, 1, 0] rfl) (fun H locs ls hW hl => ?_)
  refine lv_iload hx hb dX8_allFail_71 (lv_at hl 4 rfl) ?_
  obtain rfl := Option.some.inj h
  exact wd_iret hA hQ hC hr hk hW dX8_allFail_73
def m_X6_prepare_L18 : Nat → St → Int32 → Option (St)
  | 0, _, _ => none
  | n + 1, S, x4 =>
    if 3 ≤ x4 then (some S) else (ck x4 3 (nm (sF S (48 + x4.toNatClampNeg) (fun _ => (-1))) (fun S11 => m_X6_prepare_L18 n S11 (x4 + 1))))
theorem m_X6_prepare_L18_0 (S : St) (x4 : Int32) : m_X6_prepare_L18 0 S x4 = none := rfl
theorem m_X6_prepare_L18_s {n : Nat} {S : St} {x4 : Int32} : m_X6_prepare_L18 (n + 1) S x4 =
    (if 3 ≤ x4 then (some S) else (ck x4 3 (nm (sF S (48 + x4.toNatClampNeg) (fun _ => (-1))) (fun S11 => m_X6_prepare_L18 n S11 (x4 + 1))))) := rfl
def m_X6_prepare (n : Nat) (S : St) (k0 : Nat) (p1 : Int32) : Option (St) :=
  nm (sR S 0 (some k0)) (fun S1 => nm (sI S1 61 p1) (fun S3 => nm (sR S3 1 (some 0)) (fun S5 => (m_X6_prepare_L18 n S5 0).bind (fun q7 => some q7))))
set_option maxHeartbeats 4000000 in
set_option maxRecDepth 100000 in
theorem c_X6_prepare (l : Launch) (D : va_G) (cy : Nat → ClassId) (ad : Nat → Nat) (X : va_W) (n : Nat) (S : St) (k0 : Nat) (p1 : Int32) (r : (St)) (h : m_X6_prepare n S k0 p1 = some r) (hk0 : k0 < 7) : CT l yX6_prepare wsX6_prepare 1 D cy [.ref (ad 46), .ref (ad (4 + 3 * k0)), .int p1, .ref (ad 44)] (wC ad cy S ++ X) (none) (wC ad cy r ++ X) := by
  refine CT.mk (cc := cX6_prepare) (maxL := 5) (ret := none) (own := RX6) (by decide) rfl rfl (Nat.le_of_ble_eq_true rfl) ?_
  intro p e s m args below meth c ls A Q hA hQ hC hr hk hW hl
  have hx := hC.1
  have hb := hC.2.1
  have hown := hC.2.2.2.1
  have hts := hC.2.2.2.2
  have hl : lv_has ls 5 [(0, .ref (ad 46)), (1, .ref (ad (4 + 3 * k0))), (2, .int p1), (3, .ref (ad 44))] := hl
  have f9 := hts (.fieldLink RX6 9 "NextLoad$Plan" "who" "LNextLoad$Lifter;") (by decide +kernel)
  have i6 := (by decide +kernel : ∀ w ∈ u_ws RX6 TX6 4, w ∈ wsX6_prepare)
  have f15 := hts (.fieldLink RX6 15 "NextLoad$Plan" "tire" "I") (by decide +kernel)
  have f19 := hts (.fieldLink RX6 19 "NextLoad$Plan" "goal" "LNextLoad$Aim;") (by decide +kernel)
  have f25 := hts (.fieldLink RX6 25 "NextLoad$Plan" "starts" "[[I") (by decide +kernel)
  unfold m_X6_prepare at h
  refine lv_aload_n hx hb dX6_prepare_0 rfl (lv_at hl 0 rfl) ?_
  refine lv_aload_n hx hb dX6_prepare_1 rfl (lv_at hl 1 rfl) ?_
  refine wd_put hC i6 tyX6_ok nmX6 hW 46 wC_c46 rfl 0 (Nat.le_of_ble_eq_true rfl) f9 rfl rfl rfl rfl (Nat.le_of_ble_eq_true rfl) (wC_r46_0 (j := k0)) dX6_prepare_2 (fun H locs hW => ?_)
  obtain ⟨S1, e2, h⟩ := nm_of h
  replace hW := wq_S e2 hW
  refine lv_aload_n hx hb dX6_prepare_5 rfl (lv_at hl 0 rfl) ?_
  refine lv_iload_n hx hb dX6_prepare_6 rfl (lv_at hl 2 rfl) ?_
  refine wd_put hC i6 tyX6_ok nmX6 hW 46 wC_c46 rfl 1 (Nat.le_of_ble_eq_true rfl) f15 rfl rfl rfl rfl (Nat.le_of_ble_eq_true rfl) wC_s46_1 dX6_prepare_7 (fun H locs hW => ?_)
  obtain ⟨S3, e4, h⟩ := nm_of h
  replace hW := wq_S e4 hW
  refine lv_aload_n hx hb dX6_prepare_10 rfl (lv_at hl 0 rfl) ?_
  refine lv_aload_n hx hb dX6_prepare_11 rfl (lv_at hl 3 rfl) ?_
  refine wd_put hC i6 tyX6_ok nmX6 hW 46 wC_c46 rfl 2 (Nat.le_of_ble_eq_true rfl) f19 rfl rfl rfl rfl (Nat.le_of_ble_eq_true rfl) (wC_r46_2 (j := 0)) dX6_prepare_12 (fun H locs hW => ?_)
  obtain ⟨S5, e6, h⟩ := nm_of h
  replace hW := wq_S e6 hW
  refine lv_iconst (v := 0) hx hb dX6_prepare_15 (by decide) ?_
  refine lv_istore (lv' := [(4, .int 0), (0, .ref (ad 46)), (1, .ref (ad (4 + 3 * k0))), (2, .int p1), (3, .ref (ad 44))]) hx hb dX6_prepare_16 hl (by decide) rfl (fun ls hl => ?_)
  have hL18 : ∀ (n : Nat) (S : St) (x4 : Int32)  (H : Heap) (locs : List Loc) (ls : Array Slot) (r : (St)), m_X6_prepare_L18 n S x4 = some r → Wd D cy A s (wC ad cy S ++ X) H locs → lv_has ls 5 [(0, .ref (ad 46)), (4, .int x4)] → (∀ (H : Heap) (locs : List Loc) (ls : Array Slot), Wd D cy A s (wC ad cy r ++ X) H locs → lv_has ls 5 [(0, .ref (ad 46))] → W p l e (RM 1) s m args below meth c H locs 0 0 Q (F0 m 41 ls [])) → W p l e (RM 1) s m args below meth c H locs 0 0 Q (F0 m 18 ls []) := by
    intro n
    induction n with
    | zero =>
      intro S x4  H locs ls r h
      exact absurd (h.symm.trans (m_X6_prepare_L18_0 ..)) (by simp)
    | succ n ih =>
      intro S x4  H locs ls r h hW hl kk
      rw [m_X6_prepare_L18_s] at h
      refine lv_iload hx hb dX6_prepare_18 (lv_at hl 1 rfl) ?_
      refine lv_iconst (v := 3) hx hb dX6_prepare_20 (by decide) ?_
      refine lv_icmp_ge (tgt := 41) hx hb dX6_prepare_21 (by decide) (fun c9 => ?_) (fun c9 => ?_)
      · replace h := ite_t h c9
        obtain rfl := Option.some.inj h
        exact kk _ _ _ hW (lv_sub hl [0] rfl)
      · replace h := ite_f h c9
        refine lv_aload_n hx hb dX6_prepare_24 rfl (lv_at hl 0 rfl) ?_
        refine wd_get hC i6 hW 46 wC_c46 rfl 3 (Nat.le_of_ble_eq_true rfl) f25 rfl rfl dX6_prepare_25 ?_
        refine lv_iload hx hb dX6_prepare_28 (lv_at hl 1 rfl) ?_
        obtain ⟨hi10, h⟩ := ck_of h
        refine wd_aldg hC hW 47 wC_c47 hi10 rfl dX6_prepare_30 ?_
        refine lv_iconst (v := (-1)) hx hb dX6_prepare_31 (by decide) ?_
        refine wd_callS0 (As := [.ref (ad (48 + x4.toNatClampNeg)), .int (-1)]) hC hW (c_fill l D cy (48 + x4.toNatClampNeg) (ad (48 + x4.toNatClampNeg)) 242 _ (-1) (wG_ps (in_lt hi10)) (by decide) (wG_ps_f (in_lt hi10))) (va_cwS 2 hts gX6_prepare_J7_fill_53178 rfl rfl rfl hdJ7_fill_53178 ⟨Nat.le_of_ble_eq_true rfl, Nat.le_of_ble_eq_true rfl⟩) rfl hl.1 rfl (Nat.le_of_ble_eq_true rfl) ⟨Nat.zero_le _, Nat.zero_le _⟩ dX6_prepare_32 (fun H locs hW => ?_)
        obtain ⟨S11, e12, h⟩ := nm_of h
        replace hW := wq_S e12 hW
        refine lv_iinc (v := x4 + 1) (lv' := [(4, .int (x4 + 1)), (0, .ref (ad 46))]) hx hb dX6_prepare_35 hl (k := 1) rfl rfl (by decide) rfl (fun ls hl => ?_)
        refine lv_goto (tgt := 18) hx hb dX6_prepare_38 (by decide) ?_
        exact ih S11 (x4 + 1) _ _ _ r h hW (lv_sub hl [1, 0] rfl) kk
  obtain ⟨q7, hq8, h⟩ := bd_of h
  refine hL18 n S5 0  _ _ _ q7 hq8 hW (lv_sub hl [1, 0] rfl) (fun H locs ls hW hl => ?_)
  obtain rfl := Option.some.inj h
  exact wd_vret hA hQ hC hr hk hW dX6_prepare_41
