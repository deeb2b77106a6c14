theorem hdX4_placeOf : yX4_placeOf.cls = RX4 ∧ yX4_placeOf.cls ≠ "java/lang/invoke/MethodHandle" ∧ yX4_placeOf.cls ≠ "java/lang/invoke/VarHandle" ∧ (parseMethodDescriptor yX4_placeOf.desc).map (fun d => d.parameters.length) = some 1 := by decide +kernel
theorem hdX6_startOf : yX6_startOf.cls = RX6 ∧ yX6_startOf.cls ≠ "java/lang/invoke/MethodHandle" ∧ yX6_startOf.cls ≠ "java/lang/invoke/VarHandle" ∧ (parseMethodDescriptor yX6_startOf.desc).map (fun d => d.parameters.length) = some 2 := by decide +kernel
theorem hdX6_valueOfTry : yX6_valueOfTry.cls = RX6 ∧ yX6_valueOfTry.cls ≠ "java/lang/invoke/MethodHandle" ∧ yX6_valueOfTry.cls ≠ "java/lang/invoke/VarHandle" ∧ (parseMethodDescriptor yX6_valueOfTry.desc).map (fun d => d.parameters.length) = some 6 := by decide +kernel
theorem hdX8_isLoad : yX8_isLoad.cls ≠ "java/lang/invoke/MethodHandle" ∧ yX8_isLoad.cls ≠ "java/lang/invoke/VarHandle" ∧ (parseMethodDescriptor yX8_isLoad.desc).map (fun d => d.parameters.length) = some 1 := by decide +kernel
theorem hdX8_mix : yX8_mix.cls ≠ "java/lang/invoke/MethodHandle" ∧ yX8_mix.cls ≠ "java/lang/invoke/VarHandle" ∧ (parseMethodDescriptor yX8_mix.desc).map (fun d => d.parameters.length) = some 3 := by decide +kernel
def m_X8_isLift (S : St) (p0 : Int32) : Option (Int32) :=
  if p0 < 0 then (some 0) else (if 3 ≤ p0 then (some 0) else (some 1))
set_option maxHeartbeats 4000000 in
set_option maxRecDepth 100000 in
theorem c_X8_isLift (l : Launch) (D : va_G) (cy : Nat → ClassId) (ad : Nat → Nat) (X : va_W) (S : St) (p0 : Int32) (r : (Int32)) (h : m_X8_isLift S p0 = some r) : CT l yX8_isLift (wu yX8_isLift cX8_isLift 1 (some .boolean)) 0 D cy [.int p0] (wC ad cy S ++ X) (some (.int r)) (wC ad cy S ++ X) := by
  refine CT.mk (cc := cX8_isLift) (maxL := 1) (ret := (some .boolean)) (own := RX8) (by decide) rfl rfl (Nat.le_of_ble_eq_true rfl) ?_
  intro p e s m args below meth c ls A Q hA hQ hC hr hk hW hl
  have hx := hC.1
  have hb := hC.2.1
  have hown := hC.2.2.2.1
  have hts := hC.2.2.2.2
  have hl : lv_has ls 1 [(0, .int p0)] := hl
  unfold m_X8_isLift at h
  refine lv_iload_n hx hb dX8_isLift_0 rfl (lv_at hl 0 rfl) ?_
  refine lv_if_lt (tgt := 13) hx hb dX8_isLift_1 (by decide) (fun c1 => ?_) (fun c1 => ?_)
  · replace h := ite_t h c1
    refine lv_iconst (v := 0) hx hb dX8_isLift_13 (by decide) ?_
    obtain rfl := Option.some.inj h
    exact wd_zret hA hQ hC hr hk hW rfl dX8_isLift_14
  · replace h := ite_f h c1
    refine lv_iload_n hx hb dX8_isLift_4 rfl (lv_at hl 0 rfl) ?_
    refine lv_iconst (v := 3) hx hb dX8_isLift_5 (by decide) ?_
    refine lv_icmp_ge (tgt := 13) hx hb dX8_isLift_6 (by decide) (fun c2 => ?_) (fun c2 => ?_)
    · replace h := ite_t h c2
      refine lv_iconst (v := 0) hx hb dX8_isLift_13 (by decide) ?_
      obtain rfl := Option.some.inj h
      exact wd_zret hA hQ hC hr hk hW rfl dX8_isLift_14
    · replace h := ite_f h c2
      refine lv_iconst (v := 1) hx hb dX8_isLift_9 (by decide) ?_
      refine lv_goto (tgt := 14) hx hb dX8_isLift_10 (by decide) ?_
      obtain rfl := Option.some.inj h
      exact wd_zret hA hQ hC hr hk hW rfl dX8_isLift_14
def m_X8_isLoad (S : St) (p0 : Int32) : Option (Int32) :=
  if p0 < 1 then (some 0) else (if 40 < p0 then (some 0) else (some 1))
set_option maxHeartbeats 4000000 in
set_option maxRecDepth 100000 in
theorem c_X8_isLoad (l : Launch) (D : va_G) (cy : Nat → ClassId) (ad : Nat → Nat) (X : va_W) (S : St) (p0 : Int32) (r : (Int32)) (h : m_X8_isLoad S p0 = some r) : CT l yX8_isLoad (wu yX8_isLoad cX8_isLoad 1 (some .boolean)) 0 D cy [.int p0] (wC ad cy S ++ X) (some (.int r)) (wC ad cy S ++ X) := by
  refine CT.mk (cc := cX8_isLoad) (maxL := 1) (ret := (some .boolean)) (own := RX8) (by decide) rfl rfl (Nat.le_of_ble_eq_true rfl) ?_
  intro p e s m args below meth c ls A Q hA hQ hC hr hk hW hl
  have hx := hC.1
  have hb := hC.2.1
  have hown := hC.2.2.2.1
  have hts := hC.2.2.2.2
  have hl : lv_has ls 1 [(0, .int p0)] := hl
  unfold m_X8_isLoad at h
  refine lv_iload_n hx hb dX8_isLoad_0 rfl (lv_at hl 0 rfl) ?_
  refine lv_iconst (v := 1) hx hb dX8_isLoad_1 (by decide) ?_
  refine lv_icmp_lt (tgt := 15) hx hb dX8_isLoad_2 (by decide) (fun c1 => ?_) (fun c1 => ?_)
  · replace h := ite_t h c1
    refine lv_iconst (v := 0) hx hb dX8_isLoad_15 (by decide) ?_
    obtain rfl := Option.some.inj h
    exact wd_zret hA hQ hC hr hk hW rfl dX8_isLoad_16
  · replace h := ite_f h c1
    refine lv_iload_n hx hb dX8_isLoad_5 rfl (lv_at hl 0 rfl) ?_
    refine lv_bipush (v := 40) hx hb dX8_isLoad_6 (by decide) ?_
    refine lv_icmp_gt (tgt := 15) hx hb dX8_isLoad_8 (by decide) (fun c2 => ?_) (fun c2 => ?_)
    · replace h := ite_t h c2
      refine lv_iconst (v := 0) hx hb dX8_isLoad_15 (by decide) ?_
      obtain rfl := Option.some.inj h
      exact wd_zret hA hQ hC hr hk hW rfl dX8_isLoad_16
    · replace h := ite_f h c2
      refine lv_iconst (v := 1) hx hb dX8_isLoad_11 (by decide) ?_
      refine lv_goto (tgt := 16) hx hb dX8_isLoad_12 (by decide) ?_
      obtain rfl := Option.some.inj h
      exact wd_zret hA hQ hC hr hk hW rfl dX8_isLoad_16
def m_X8_isAimed (S : St) (p0 : Int32) : Option (Int32) :=
  if p0 < 0 then (some 0) else (if 121 < p0 then (some 0) else (some 1))
set_option maxHeartbeats 4000000 in
set_option maxRecDepth 100000 in
theorem c_X8_isAimed (l : Launch) (D : va_G) (cy : Nat → ClassId) (ad : Nat → Nat) (X : va_W) (S : St) (p0 : Int32) (r : (Int32)) (h : m_X8_isAimed S p0 = some r) : CT l yX8_isAimed (wu yX8_isAimed cX8_isAimed 1 (some .boolean)) 0 D cy [.int p0] (wC ad cy S ++ X) (some (.int r)) (wC ad cy S ++ X) := by
  refine CT.mk (cc := cX8_isAimed) (maxL := 1) (ret := (some .boolean)) (own := RX8) (by decide) rfl rfl (Nat.le_of_ble_eq_true rfl) ?_
  intro p e s m args below meth c ls A Q hA hQ hC hr hk hW hl
  have hx := hC.1
  have hb := hC.2.1
  have hown := hC.2.2.2.1
  have hts := hC.2.2.2.2
  have hl : lv_has ls 1 [(0, .int p0)] := hl
  unfold m_X8_isAimed at h
  refine lv_iload_n hx hb dX8_isAimed_0 rfl (lv_at hl 0 rfl) ?_
  refine lv_if_lt (tgt := 14) hx hb dX8_isAimed_1 (by decide) (fun c1 => ?_) (fun c1 => ?_)
  · replace h := ite_t h c1
    refine lv_iconst (v := 0) hx hb dX8_isAimed_14 (by decide) ?_
    obtain rfl := Option.some.inj h
    exact wd_zret hA hQ hC hr hk hW rfl dX8_isAimed_15
  · replace h := ite_f h c1
    refine lv_iload_n hx hb dX8_isAimed_4 rfl (lv_at hl 0 rfl) ?_
    refine lv_bipush (v := 121) hx hb dX8_isAimed_5 (by decide) ?_
    refine lv_icmp_gt (tgt := 14) hx hb dX8_isAimed_7 (by decide) (fun c2 => ?_) (fun c2 => ?_)
    · replace h := ite_t h c2
      refine lv_iconst (v := 0) hx hb dX8_isAimed_14 (by decide) ?_
      obtain rfl := Option.some.inj h
      exact wd_zret hA hQ hC hr hk hW rfl dX8_isAimed_15
    · replace h := ite_f h c2
      refine lv_iconst (v := 1) hx hb dX8_isAimed_10 (by decide) ?_
      refine lv_goto (tgt := 15) hx hb dX8_isAimed_11 (by decide) ?_
      obtain rfl := Option.some.inj h
      exact wd_zret hA hQ hC hr hk hW rfl dX8_isAimed_15
def m_X8_isPlan (S : St) (p0 : Int32) (p1 : Int32) : Option (Int32) :=
  if p0 = 0 then ((m_X8_isLoad S p1).bind (fun r2 => ckb r2 (some r2))) else (if p0 = 1 then (if p1 < 1 then (some 0) else (if 9 < p1 then (some 0) else (some 1))) else (if p0 = 2 then (if p1 < 0 then (some 0) else (if 9 < p1 then (some 0) else (some 1))) else (some 0)))
set_option maxHeartbeats 4000000 in
set_option maxRecDepth 100000 in
theorem c_X8_isPlan (l : Launch) (D : va_G) (cy : Nat → ClassId) (ad : Nat → Nat) (X : va_W) (S : St) (p0 : Int32) (p1 : Int32) (r : (Int32)) (h : m_X8_isPlan S p0 p1 = some r) : CT l yX8_isPlan (wu yX8_isPlan cX8_isPlan 2 (some .boolean)) 1 D cy [.int p0, .int p1] (wC ad cy S ++ X) (some (.int r)) (wC ad cy S ++ X) := by
  refine CT.mk (cc := cX8_isPlan) (maxL := 2) (ret := (some .boolean)) (own := RX8) (by decide) rfl rfl (Nat.le_of_ble_eq_true rfl) ?_
  intro p e s m args below meth c ls A Q hA hQ hC hr hk hW hl
  have hx := hC.1
  have hb := hC.2.1
  have hown := hC.2.2.2.1
  have hts := hC.2.2.2.2
  have hl : lv_has ls 2 [(0, .int p0), (1, .int p1)] := hl
  unfold m_X8_isPlan at h
  refine lv_iload_n hx hb dX8_isPlan_0 rfl (lv_at hl 0 rfl) ?_
  by_cases c1 : p0 = 0
  · replace h := ite_t h c1
    refine lv_tableIn (tgt := 28) hx hb dX8_isPlan_1 (by rw [c1]; decide) (by rw [c1]; decide) (by rw [c1]; rfl) (by decide) ?_
    refine lv_iload_n hx hb dX8_isPlan_28 rfl (lv_at hl 1 rfl) ?_
    obtain ⟨r2, hr3, h⟩ := bd_of h
    refine wd_callS1 (As := [.int p1]) hC hW (c_X8_isLoad l D cy ad X S p1 r2 hr3) (va_cwS 1 hts (gu_S w_13_18 w_13_16 w_13_17 w_1_2) rfl rfl rfl hdX8_isLoad ⟨Nat.le_of_ble_eq_true rfl, Nat.le_of_ble_eq_true rfl⟩) rfl hl.1 rfl (Nat.le_of_ble_eq_true rfl) ⟨Nat.zero_le _, Nat.zero_le _⟩ dX8_isPlan_29 (fun H locs hW => ?_)
    obtain ⟨hb4, h⟩ := ckb_of h
    obtain rfl := Option.some.inj h
    exact wd_zret hA hQ hC hr hk hW (ckb_nar hb4) dX8_isPlan_32
  replace h := ite_f h c1
  by_cases c5 : p0 = 1
  · replace h := ite_t h c5
    refine lv_tableIn (tgt := 33) hx hb dX8_isPlan_1 (by rw [c5]; decide) (by rw [c5]; decide) (by rw [c5]; rfl) (by decide) ?_
    refine lv_iload_n hx hb dX8_isPlan_33 rfl (lv_at hl 1 rfl) ?_
    refine lv_iconst (v := 1) hx hb dX8_isPlan_34 (by decide) ?_
    refine lv_icmp_lt (tgt := 48) hx hb dX8_isPlan_35 (by decide) (fun c6 => ?_) (fun c6 => ?_)
    · replace h := ite_t h c6
      refine lv_iconst (v := 0) hx hb dX8_isPlan_48 (by decide) ?_
      obtain rfl := Option.some.inj h
      exact wd_zret hA hQ hC hr hk hW rfl dX8_isPlan_49
    · replace h := ite_f h c6
      refine lv_iload_n hx hb dX8_isPlan_38 rfl (lv_at hl 1 rfl) ?_
      refine lv_bipush (v := 9) hx hb dX8_isPlan_39 (by decide) ?_
      refine lv_icmp_gt (tgt := 48) hx hb dX8_isPlan_41 (by decide) (fun c7 => ?_) (fun c7 => ?_)
      · replace h := ite_t h c7
        refine lv_iconst (v := 0) hx hb dX8_isPlan_48 (by decide) ?_
        obtain rfl := Option.some.inj h
        exact wd_zret hA hQ hC hr hk hW rfl dX8_isPlan_49
      · replace h := ite_f h c7
        refine lv_iconst (v := 1) hx hb dX8_isPlan_44 (by decide) ?_
        refine lv_goto (tgt := 49) hx hb dX8_isPlan_45 (by decide) ?_
        obtain rfl := Option.some.inj h
        exact wd_zret hA hQ hC hr hk hW rfl dX8_isPlan_49
  replace h := ite_f h c5
  by_cases c8 : p0 = 2
  · replace h := ite_t h c8
    refine lv_tableIn (tgt := 50) hx hb dX8_isPlan_1 (by rw [c8]; decide) (by rw [c8]; decide) (by rw [c8]; rfl) (by decide) ?_
    refine lv_iload_n hx hb dX8_isPlan_50 rfl (lv_at hl 1 rfl) ?_
    refine lv_if_lt (tgt := 64) hx hb dX8_isPlan_51 (by decide) (fun c9 => ?_) (fun c9 => ?_)
    · replace h := ite_t h c9
      refine lv_iconst (v := 0) hx hb dX8_isPlan_64 (by decide) ?_
      obtain rfl := Option.some.inj h
      exact wd_zret hA hQ hC hr hk hW rfl dX8_isPlan_65
    · replace h := ite_f h c9
      refine lv_iload_n hx hb dX8_isPlan_54 rfl (lv_at hl 1 rfl) ?_
      refine lv_bipush (v := 9) hx hb dX8_isPlan_55 (by decide) ?_
      refine lv_icmp_gt (tgt := 64) hx hb dX8_isPlan_57 (by decide) (fun c10 => ?_) (fun c10 => ?_)
      · replace h := ite_t h c10
        refine lv_iconst (v := 0) hx hb dX8_isPlan_64 (by decide) ?_
        obtain rfl := Option.some.inj h
        exact wd_zret hA hQ hC hr hk hW rfl dX8_isPlan_65
      · replace h := ite_f h c10
        refine lv_iconst (v := 1) hx hb dX8_isPlan_60 (by decide) ?_
        refine lv_goto (tgt := 65) hx hb dX8_isPlan_61 (by decide) ?_
        obtain rfl := Option.some.inj h
        exact wd_zret hA hQ hC hr hk hW rfl dX8_isPlan_65
  replace h := ite_f h c8
  have hsw : p0.toInt < 0 ∨ 2 < p0.toInt := by
    have : ¬ p0.toInt = 0 := lv_neT c1 rfl
    have : ¬ p0.toInt = 1 := lv_neT c5 rfl
    have : ¬ p0.toInt = 2 := lv_neT c8 rfl
    omega
  refine lv_tableOut (tgt := 66) hx hb dX8_isPlan_1 hsw (by decide) ?_
  refine lv_iconst (v := 0) hx hb dX8_isPlan_66 (by decide) ?_
  obtain rfl := Option.some.inj h
  exact wd_zret hA hQ hC hr hk hW rfl dX8_isPlan_67
def m_X8_mix (S : St) (p0 : Int32) (p1 : Int32) (p2 : Int32) : Option (Int32) :=
  some (((p0 * p1) + ((1000 - p0) * p2)) / 1000)
set_option maxHeartbeats 4000000 in
set_option maxRecDepth 100000 in
theorem c_X8_mix (l : Launch) (D : va_G) (cy : Nat → ClassId) (ad : Nat → Nat) (X : va_W) (S : St) (p0 : Int32) (p1 : Int32) (p2 : Int32) (r : (Int32)) (h : m_X8_mix S p0 p1 p2 = some r) : CT l yX8_mix (wu yX8_mix cX8_mix 3 (some .int)) 0 D cy [.int p0, .int p1, .int p2] (wC ad cy S ++ X) (some (.int r)) (wC ad cy S ++ X) := by
  refine CT.mk (cc := cX8_mix) (maxL := 3) (ret := (some .int)) (own := RX8) (by decide) rfl rfl (Nat.le_of_ble_eq_true rfl) ?_
  intro p e s m args below meth c ls A Q hA hQ hC hr hk hW hl
  have hx := hC.1
  have hb := hC.2.1
  have hown := hC.2.2.2.1
  have hts := hC.2.2.2.2
  have hl : lv_has ls 3 [(0, .int p0), (1, .int p1), (2, .int p2)] := hl
  unfold m_X8_mix at h
  refine lv_iload_n hx hb dX8_mix_0 rfl (lv_at hl 0 rfl) ?_
  refine lv_iload_n hx hb dX8_mix_1 rfl (lv_at hl 1 rfl) ?_
  refine lv_imul hx hb dX8_mix_2 ?_
  refine lv_sipush (v := 1000) hx hb dX8_mix_3 (by decide) ?_
  refine lv_iload_n hx hb dX8_mix_6 rfl (lv_at hl 0 rfl) ?_
  refine lv_isub hx hb dX8_mix_7 ?_
  refine lv_iload_n hx hb dX8_mix_8 rfl (lv_at hl 2 rfl) ?_
  refine lv_imul hx hb dX8_mix_9 ?_
  refine lv_iadd hx hb dX8_mix_10 ?_
  refine lv_sipush (v := 1000) hx hb dX8_mix_11 (by decide) ?_
  refine lv_idiv hx hb dX8_mix_14 (by decide) ?_
  obtain rfl := Option.some.inj h
  exact wd_iret hA hQ hC hr hk hW dX8_mix_15
def m_X8_isLifter (S : St) (p0 : Int32) : Option (Int32) :=
  if p0 < 0 then (some 0) else (if (S.1 30) ≤ p0 then (some 0) else (some 1))
set_option maxHeartbeats 4000000 in
set_option maxRecDepth 100000 in
theorem c_X8_isLifter (l : Launch) (D : va_G) (cy : Nat → ClassId) (ad : Nat → Nat) (X : va_W) (S : St) (p0 : Int32) (r : (Int32)) (h : m_X8_isLifter S p0 = some r) : CT l yX8_isLifter (wu yX8_isLifter cX8_isLifter 2 (some .boolean)) 0 D cy [.ref (ad 0), .int p0] (wC ad cy S ++ X) (some (.int r)) (wC ad cy S ++ X) := by
  refine CT.mk (cc := cX8_isLifter) (maxL := 2) (ret := (some .boolean)) (own := RX8) (by decide) rfl rfl (Nat.le_of_ble_eq_true rfl) ?_
  intro p e s m args below meth c ls A Q hA hQ hC hr hk hW hl
  have hx := hC.1
  have hb := hC.2.1
  have hown := hC.2.2.2.1
  have hts := hC.2.2.2.2
  have hl : lv_has ls 2 [(0, .ref (ad 0)), (1, .int p0)] := hl
  have f28 := hts _ (wu_in w_2_0)
  have i8 := (fun w h => wu_in (inc_8 w h) : ∀ w ∈ u_ws RX8 TX8 12, w ∈ (wu yX8_isLifter cX8_isLifter 2 (some .boolean)))
  have f87 := hts _ (wu_in w_7_11)
  have i4 := (fun w h => wu_in (inc_4 w h) : ∀ w ∈ u_ws RX4 TX4 16, w ∈ (wu yX8_isLifter cX8_isLifter 2 (some .boolean)))
  unfold m_X8_isLifter at h
  refine lv_iload_n hx hb dX8_isLifter_0 rfl (lv_at hl 1 rfl) ?_
  refine lv_if_lt (tgt := 19) hx hb dX8_isLifter_1 (by decide) (fun c1 => ?_) (fun c1 => ?_)
  · replace h := ite_t h c1
    refine lv_iconst (v := 0) hx hb dX8_isLifter_19 (by decide) ?_
    obtain rfl := Option.some.inj h
    exact wd_zret hA hQ hC hr hk hW rfl dX8_isLifter_20
  · replace h := ite_f h c1
    refine lv_iload_n hx hb dX8_isLifter_4 rfl (lv_at hl 1 rfl) ?_
    refine lv_aload_n hx hb dX8_isLifter_5 rfl (lv_at hl 0 rfl) ?_
    refine wd_get hC i8 hW 0 wC_c0 rfl 2 (Nat.le_of_ble_eq_true rfl) f28 rfl rfl dX8_isLifter_6 ?_
    refine wd_get hC i4 hW 25 wC_c25 rfl 1 (Nat.le_of_ble_eq_true rfl) f87 rfl rfl dX8_isLifter_9 ?_
    refine lv_icmp_ge (tgt := 19) hx hb dX8_isLifter_12 (by decide) (fun c2 => ?_) (fun c2 => ?_)
    · replace h := ite_t h c2
      refine lv_iconst (v := 0) hx hb dX8_isLifter_19 (by decide) ?_
      obtain rfl := Option.some.inj h
      exact wd_zret hA hQ hC hr hk hW rfl dX8_isLifter_20
    · replace h := ite_f h c2
      refine lv_iconst (v := 1) hx hb dX8_isLifter_15 (by decide) ?_
      refine lv_goto (tgt := 20) hx hb dX8_isLifter_16 (by decide) ?_
      obtain rfl := Option.some.inj h
      exact wd_zret hA hQ hC hr hk hW rfl dX8_isLifter_20
def m_X8_tellTwo (S : St) (p0 : Int32) (p1 : Int32) : Option (St) :=
  ck 0 9 (nm (sJ S 58 ((0 : Int32).toNatClampNeg) p0.toInt64) (fun S2 => ck 1 9 (nm (sJ S2 58 ((1 : Int32).toNatClampNeg) p1.toInt64) (fun S5 => nm (sI S5 0 2) (fun S7 => some S7)))))
set_option maxHeartbeats 4000000 in
set_option maxRecDepth 100000 in
theorem c_X8_tellTwo (l : Launch) (D : va_G) (cy : Nat → ClassId) (ad : Nat → Nat) (X : va_W) (S : St) (p0 : Int32) (p1 : Int32) (r : (St)) (h : m_X8_tellTwo S p0 p1 = some r) : CT l yX8_tellTwo (wu yX8_tellTwo cX8_tellTwo 3 none) 0 D cy [.ref (ad 0), .int p0, .int p1] (wC ad cy S ++ X) (none) (wC ad cy r ++ X) := by
  refine CT.mk (cc := cX8_tellTwo) (maxL := 3) (ret := none) (own := RX8) (by decide) rfl rfl (Nat.le_of_ble_eq_true rfl) ?_
  intro p e s m args below meth c ls A Q hA hQ hC hr hk hW hl
  have hx := hC.1
  have hb := hC.2.1
  have hown := hC.2.2.2.1
  have hts := hC.2.2.2.2
  have hl : lv_has ls 3 [(0, .ref (ad 0)), (1, .int p0), (2, .int p1)] := hl
  have f61 := hts _ (wu_in w_2_17)
  have i8 := (fun w h => wu_in (inc_8 w h) : ∀ w ∈ u_ws RX8 TX8 12, w ∈ (wu yX8_tellTwo cX8_tellTwo 3 none))
  have f65 := hts _ (wu_in w_2_18)
  unfold m_X8_tellTwo at h
  refine lv_aload_n hx hb dX8_tellTwo_0 rfl (lv_at hl 0 rfl) ?_
  refine wd_get hC i8 hW 0 wC_c0 rfl 8 (Nat.le_of_ble_eq_true rfl) f61 rfl rfl dX8_tellTwo_1 ?_
  refine lv_iconst (v := 0) hx hb dX8_tellTwo_4 (by decide) ?_
  refine lv_iload_n hx hb dX8_tellTwo_5 rfl (lv_at hl 1 rfl) ?_
  refine lv_i2l (v := p0.toInt64) hx hb dX8_tellTwo_6 rfl ?_
  obtain ⟨hi1, h⟩ := ck_of h
  refine wd_last hC hW 58 wC_c58 hi1 wC_t58 dX8_tellTwo_7 (fun H locs hW => ?_)
  obtain ⟨S2, e3, h⟩ := nm_of h
  replace hW := wq_S e3 hW
  refine lv_aload_n hx hb dX8_tellTwo_8 rfl (lv_at hl 0 rfl) ?_
  refine wd_get hC i8 hW 0 wC_c0 rfl 8 (Nat.le_of_ble_eq_true rfl) f61 rfl rfl dX8_tellTwo_9 ?_
  refine lv_iconst (v := 1) hx hb dX8_tellTwo_12 (by decide) ?_
  refine lv_iload_n hx hb dX8_tellTwo_13 rfl (lv_at hl 2 rfl) ?_
  refine lv_i2l (v := p1.toInt64) hx hb dX8_tellTwo_14 rfl ?_
  obtain ⟨hi4, h⟩ := ck_of h
  refine wd_last hC hW 58 wC_c58 hi4 wC_t58 dX8_tellTwo_15 (fun H locs hW => ?_)
  obtain ⟨S5, e6, h⟩ := nm_of h
  replace hW := wq_S e6 hW
  refine lv_aload_n hx hb dX8_tellTwo_16 rfl (lv_at hl 0 rfl) ?_
  refine lv_iconst (v := 2) hx hb dX8_tellTwo_17 (by decide) ?_
  refine wd_put hC i8 tyX8_ok nmX8 hW 0 wC_c0 rfl 9 (Nat.le_of_ble_eq_true rfl) f65 rfl rfl rfl rfl (Nat.le_of_ble_eq_true rfl) wC_s0_9 dX8_tellTwo_18 (fun H locs hW => ?_)
  obtain ⟨S7, e8, h⟩ := nm_of h
  replace hW := wq_S e8 hW
  obtain rfl := Option.some.inj h
  exact wd_vret hA hQ hC hr hk hW dX8_tellTwo_21
def m_X8_tellPlaces_L2 : Nat → St → Int32 → Option (St)
  | 0, _, _ => none
  | n + 1, S, x1 =>
    if (S.1 30) ≤ x1 then (some S) else ((m_X4_placeOf 30 25 n S x1).bind (fun r4 => ck r4 9 (nm (sJ S 58 r4.toNatClampNeg x1.toInt64) (fun S7 => m_X8_tellPlaces_L2 n S7 (x1 + 1)))))
theorem m_X8_tellPlaces_L2_0 (S : St) (x1 : Int32) : m_X8_tellPlaces_L2 0 S x1 = none := rfl
theorem m_X8_tellPlaces_L2_s {n : Nat} {S : St} {x1 : Int32} : m_X8_tellPlaces_L2 (n + 1) S x1 =
    (if (S.1 30) ≤ x1 then (some S) else ((m_X4_placeOf 30 25 n S x1).bind (fun r4 => ck r4 9 (nm (sJ S 58 r4.toNatClampNeg x1.toInt64) (fun S7 => m_X8_tellPlaces_L2 n S7 (x1 + 1)))))) := rfl
def m_X8_tellPlaces (n : Nat) (S : St) : Option (St) :=
  (m_X8_tellPlaces_L2 n S 0).bind (fun q1 => nm (sI q1 0 (q1.1 30)) (fun S9 => some S9))
set_option maxHeartbeats 4000000 in
set_option maxRecDepth 100000 in
theorem c_X8_tellPlaces (l : Launch) (D : va_G) (cy : Nat → ClassId) (ad : Nat → Nat) (X : va_W) (n : Nat) (S : St) (r : (St)) (h : m_X8_tellPlaces n S = some r) : CT l yX8_tellPlaces (wu yX8_tellPlaces cX8_tellPlaces 2 none) 3 D cy [.ref (ad 0)] (wC ad cy S ++ X) (none) (wC ad cy r ++ X) := by
  refine CT.mk (cc := cX8_tellPlaces) (maxL := 2) (ret := none) (own := RX8) (by decide) rfl rfl (Nat.le_of_ble_eq_true rfl) ?_
  intro p e s m args below meth c ls A Q hA hQ hC hr hk hW hl
  have hx := hC.1
  have hb := hC.2.1
  have hown := hC.2.2.2.1
  have hts := hC.2.2.2.2
  have hl : lv_has ls 2 [(0, .ref (ad 0))] := hl
  have f28 := hts _ (wu_in w_2_0)
  have i8 := (fun w h => wu_in (inc_8 w h) : ∀ w ∈ u_ws RX8 TX8 12, w ∈ (wu yX8_tellPlaces cX8_tellPlaces 2 none))
  have f87 := hts _ (wu_in w_7_11)
  have i4 := (fun w h => wu_in (inc_4 w h) : ∀ w ∈ u_ws RX4 TX4 16, w ∈ (wu yX8_tellPlaces cX8_tellPlaces 2 none))
  have f61 := hts _ (wu_in w_2_17)
  have f65 := hts _ (wu_in w_2_18)
  unfold m_X8_tellPlaces at h
  refine lv_iconst (v := 0) hx hb dX8_tellPlaces_0 (by decide) ?_
  refine lv_istore_n (lv' := [(1, .int 0), (0, .ref (ad 0))]) hx hb dX8_tellPlaces_1 rfl hl (by decide) rfl (fun ls hl => ?_)
  have hL2 : ∀ (n : Nat) (S : St) (x1 : Int32)  (H : Heap) (locs : List Loc) (ls : Array Slot) (r : (St)), m_X8_tellPlaces_L2 n S x1 = some r → Wd D cy A s (wC ad cy S ++ X) H locs → lv_has ls 2 [(0, .ref (ad 0)), (1, .int x1)] → (∀ (H : Heap) (locs : List Loc) (ls : Array Slot), Wd D cy A s (wC ad cy r ++ X) H locs → lv_has ls 2 [(0, .ref (ad 0))] → W p l e (RM 3) s m args below meth c H locs 0 0 Q (F0 m 34 ls [])) → W p l e (RM 3) s m args below meth c H locs 0 0 Q (F0 m 2 ls []) := by
    intro n
    induction n with
    | zero =>
      intro S x1  H locs ls r h
      exact absurd (h.symm.trans (m_X8_tellPlaces_L2_0 ..)) (by simp)
    | succ n ih =>
      intro S x1  H locs ls r h hW hl kk
      rw [m_X8_tellPlaces_L2_s] at h
      refine lv_iload_n hx hb dX8_tellPlaces_2 rfl (lv_at hl 1 rfl) ?_
      refine lv_aload_n hx hb dX8_tellPlaces_3 rfl (lv_at hl 0 rfl) ?_
      refine wd_get hC i8 hW 0 wC_c0 rfl 2 (Nat.le_of_ble_eq_true rfl) f28 rfl rfl dX8_tellPlaces_4 ?_
      refine wd_get hC i4 hW 25 wC_c25 rfl 1 (Nat.le_of_ble_eq_true rfl) f87 rfl rfl dX8_tellPlaces_7 ?_
      refine lv_icmp_ge (tgt := 34) hx hb dX8_tellPlaces_10 (by decide) (fun c3 => ?_) (fun c3 => ?_)
      · replace h := ite_t h c3
        obtain rfl := Option.some.inj h
        exact kk _ _ _ hW (lv_sub hl [0] rfl)
      · replace h := ite_f h c3
        refine lv_aload_n hx hb dX8_tellPlaces_13 rfl (lv_at hl 0 rfl) ?_
        refine wd_get hC i8 hW 0 wC_c0 rfl 8 (Nat.le_of_ble_eq_true rfl) f61 rfl rfl dX8_tellPlaces_14 ?_
        refine lv_aload_n hx hb dX8_tellPlaces_17 rfl (lv_at hl 0 rfl) ?_
        refine wd_get hC i8 hW 0 wC_c0 rfl 2 (Nat.le_of_ble_eq_true rfl) f28 rfl rfl dX8_tellPlaces_18 ?_
        refine lv_iload_n hx hb dX8_tellPlaces_21 rfl (lv_at hl 1 rfl) ?_
        obtain ⟨r4, hr5, h⟩ := bd_of h
        refine wd_callV1 (As := [.int x1]) hC hW 25 wC_c25 rfl (c_X4_placeOfM l D cy ad X n S x1 r4 hr5) (cwV 1 hts (gu_V w_23_0 w_22_21 w_22_22 w_22_23 w_1_23) rfl rfl rfl hdX4_placeOf ⟨Nat.le_of_ble_eq_true rfl, Nat.le_of_ble_eq_true rfl⟩) rfl hl.1 rfl (Nat.le_of_ble_eq_true rfl) ⟨Nat.zero_le _, Nat.zero_le _⟩ dX8_tellPlaces_22 (fun H locs hW => ?_)
        refine lv_iload_n hx hb dX8_tellPlaces_25 rfl (lv_at hl 1 rfl) ?_
        refine lv_i2l (v := x1.toInt64) hx hb dX8_tellPlaces_26 rfl ?_
        obtain ⟨hi6, h⟩ := ck_of h
        refine wd_last hC hW 58 wC_c58 hi6 wC_t58 dX8_tellPlaces_27 (fun H locs hW => ?_)
        obtain ⟨S7, e8, h⟩ := nm_of h
        replace hW := wq_S e8 hW
        refine lv_iinc (v := x1 + 1) (lv' := [(1, .int (x1 + 1)), (0, .ref (ad 0))]) hx hb dX8_tellPlaces_28 hl (k := 1) rfl rfl (by decide) rfl (fun ls hl => ?_)
        refine lv_goto (tgt := 2) hx hb dX8_tellPlaces_31 (by decide) ?_
        exact ih S7 (x1 + 1) _ _ _ r h hW (lv_sub hl [1, 0] rfl) kk
  obtain ⟨q1, hq2, h⟩ := bd_of h
  refine hL2 n S 0  _ _ _ q1 hq2 hW (lv_sub hl [1, 0] rfl) (fun H locs ls hW hl => ?_)
  refine lv_aload_n hx hb dX8_tellPlaces_34 rfl (lv_at hl 0 rfl) ?_
  refine lv_aload_n hx hb dX8_tellPlaces_35 rfl (lv_at hl 0 rfl) ?_
  refine wd_get hC i8 hW 0 wC_c0 rfl 2 (Nat.le_of_ble_eq_true rfl) f28 rfl rfl dX8_tellPlaces_36 ?_
  refine wd_get hC i4 hW 25 wC_c25 rfl 1 (Nat.le_of_ble_eq_true rfl) f87 rfl rfl dX8_tellPlaces_39 ?_
  refine wd_put hC i8 tyX8_ok nmX8 hW 0 wC_c0 rfl 9 (Nat.le_of_ble_eq_true rfl) f65 rfl rfl rfl rfl (Nat.le_of_ble_eq_true rfl) wC_s0_9 dX8_tellPlaces_42 (fun H locs hW => ?_)
  obtain ⟨S9, e10, h⟩ := nm_of h
  replace hW := wq_S e10 hW
  obtain rfl := Option.some.inj h
  exact wd_vret hA hQ hC hr hk hW dX8_tellPlaces_45
def m_X8_allFail_L10 : Nat → St → Int32 → Int32 → Int32 → Int32 → Int32 → Int32 → Option (Int32)
  | 0, _, _, _, _, _, _, _ => none
  | n + 1, S, x1, x2, x4, x5, x6, x7 =>
    if 3 ≤ x7 then (some x5) else (if 40 < x6 then (some x5) else (ck x1 7 ((m_X3_oddsOf S x1.toNatClampNeg x2 x6 (x7 * (S.1 31))).bind (fun r6 => m_X8_allFail_L10 n S x1 x2 x4 ((x5 * (1000 - r6)) / 1000) (x6 + x4) (x7 + 1)))))
theorem m_X8_allFail_L10_0 (S : St) (x1 : Int32) (x2 : Int32) (x4 : Int32) (x5 : Int32) (x6 : Int32) (x7 : Int32) : m_X8_allFail_L10 0 S x1 x2 x4 x5 x6 x7 = none := rfl
theorem m_X8_allFail_L10_s {n : Nat} {S : St} {x1 : Int32} {x2 : Int32} {x4 : Int32} {x5 : Int32} {x6 : Int32} {x7 : Int32} : m_X8_allFail_L10 (n + 1) S x1 x2 x4 x5 x6 x7 =
    (if 3 ≤ x7 then (some x5) else (if 40 < x6 then (some x5) else (ck x1 7 ((m_X3_oddsOf S x1.toNatClampNeg x2 x6 (x7 * (S.1 31))).bind (fun r6 => m_X8_allFail_L10 n S x1 x2 x4 ((x5 * (1000 - r6)) / 1000) (x6 + x4) (x7 + 1)))))) := rfl
def m_X8_allFail (n : Nat) (S : St) (p0 : Int32) (p1 : Int32) (p2 : Int32) (p3 : Int32) : Option (Int32) :=
  (m_X8_allFail_L10 n S p0 p1 p3 1000000 p2 0).bind (fun q1 => some q1)
set_option maxHeartbeats 4000000 in
set_option maxRecDepth 100000 in
theorem c_X8_allFail (l : Launch) (D : va_G) (cy : Nat → ClassId) (ad : Nat → Nat) (X : va_W) (n : Nat) (S : St) (p0 : Int32) (p1 : Int32) (p2 : Int32) (p3 : Int32) (r : (Int32)) (h : m_X8_allFail n S p0 p1 p2 p3 = some r) : CT l yX8_allFail (wu yX8_allFail cX8_allFail 8 (some .int)) 2 D cy [.ref (ad 0), .int p0, .int p1, .int p2, .int p3] (wC ad cy S ++ X) (some (.int r)) (wC ad cy S ++ X) := by
  refine CT.mk (cc := cX8_allFail) (maxL := 8) (ret := (some .int)) (own := RX8) (by decide) rfl rfl (Nat.le_of_ble_eq_true rfl) ?_
  intro p e s m args below meth c ls A Q hA hQ hC hr hk hW hl
  have hx := hC.1
  have hb := hC.2.1
  have hown := hC.2.2.2.1
  have hts := hC.2.2.2.2
  have hl : lv_has ls 8 [(0, .ref (ad 0)), (1, .int p0), (2, .int p1), (3, .int p2), (4, .int p3)] := hl
  have k213 := hts _ (wu_in w_30_22)
  have f18 := hts _ (wu_in w_1_18)
  have i8 := (fun w h => wu_in (inc_8 w h) : ∀ w ∈ u_ws RX8 TX8 12, w ∈ (wu yX8_allFail cX8_allFail 8 (some .int)))
  have f28 := hts _ (wu_in w_2_0)
  have f111 := hts _ (wu_in w_14_13)
  have i4 := (fun w h => wu_in (inc_4 w h) : ∀ w ∈ u_ws RX4 TX4 16, w ∈ (wu yX8_allFail cX8_allFail 8 (some .int)))
  unfold m_X8_allFail at h
  refine lv_ldc hx hb hown k213 dX8_allFail_0 ?_
  refine lv_istore (lv' := [(5, .int 1000000), (0, .ref (ad 0)), (1, .int p0), (2, .int p1), (3, .int p2), (4, .int p3)]) hx hb dX8_allFail_2 hl (by decide) rfl (fun ls hl => ?_)
  refine lv_iload_n hx hb dX8_allFail_4 rfl (lv_at hl 4 rfl) ?_
  refine lv_istore (lv' := [(6, .int p2), (5, .int 1000000), (0, .ref (ad 0)), (1, .int p0), (2, .int p1), (3, .int p2), (4, .int p3)]) hx hb dX8_allFail_5 hl (by decide) rfl (fun ls hl => ?_)
  refine lv_iconst (v := 0) hx hb dX8_allFail_7 (by decide) ?_
  refine lv_istore (lv' := [(7, .int 0), (6, .int p2), (5, .int 1000000), (0, .ref (ad 0)), (1, .int p0), (2, .int p1), (3, .int p2), (4, .int p3)]) hx hb dX8_allFail_8 hl (by decide) rfl (fun ls hl => ?_)
  have hL10 : ∀ (n : Nat) (x1 : Int32) (x2 : Int32) (x4 : Int32) (x5 : Int32) (x6 : Int32) (x7 : Int32)  (H : Heap) (locs : List Loc) (ls : Array Slot) (r : (Int32)), m_X8_allFail_L10 n S x1 x2 x4 x5 x6 x7 = some r → Wd D cy A s (wC ad cy S ++ X) H locs → lv_has ls 8 [(0, .ref (ad 0)), (1, .int x1), (2, .int x2), (4, .int x4), (5, .int x5), (6, .int x6), (7, .int x7)] → (∀ (H : Heap) (locs : List Loc) (ls : Array Slot), Wd D cy A s (wC ad cy S ++ X) H locs → lv_has ls 8 [(0, .ref (ad 0)), (1, .int x1), (2, .int x2), (4, .int x4), (5, .int r)] → W p l e (RM 2) s m args below meth c H locs 0 0 Q (F0 m 71 ls [])) → W p l e (RM 2) s m args below meth c H locs 0 0 Q (F0 m 10 ls []) := by
    intro n
    induction n with
    | zero =>
      intro x1 x2 x4 x5 x6 x7  H locs ls r h
      exact absurd (h.symm.trans (m_X8_allFail_L10_0 ..)) (by simp)
    | succ n ih =>
      intro x1 x2 x4 x5 x6 x7  H locs ls r h hW hl kk
      rw [m_X8_allFail_L10_s] at h
      refine lv_iload hx hb dX8_allFail_10 (lv_at hl 6 rfl) ?_
      refine lv_iconst (v := 3) hx hb dX8_allFail_12 (by decide) ?_
      refine lv_icmp_ge (tgt := 71) hx hb dX8_allFail_13 (by decide) (fun c3 => ?_) (fun c3 => ?_)
      · replace h := ite_t h c3
        obtain rfl := Option.some.inj h
        exact kk _ _ _ hW (lv_sub hl [0, 1, 2, 3, 4] rfl)
      · replace h := ite_f h c3
        refine lv_iload hx hb dX8_allFail_16 (lv_at hl 5 rfl) ?_
        refine lv_bipush (v := 40) hx hb dX8_allFail_18 (by decide) ?_
        refine lv_icmp_gt (tgt := 71) hx hb dX8_allFail_20 (by decide) (fun c4 => ?_) (fun c4 => ?_)
        · replace h := ite_t h c4
          obtain rfl := Option.some.inj h
          exact kk _ _ _ hW (lv_sub hl [0, 1, 2, 3, 4] rfl)
        · replace h := ite_f h c4
          refine lv_iload hx hb dX8_allFail_23 (lv_at hl 4 rfl) ?_
          refine lv_sipush (v := 1000) hx hb dX8_allFail_25 (by decide) ?_
          refine lv_aload_n hx hb dX8_allFail_28 rfl (lv_at hl 0 rfl) ?_
          refine wd_get hC i8 hW 0 wC_c0 rfl 1 (Nat.le_of_ble_eq_true rfl) f18 rfl rfl dX8_allFail_29 ?_
          refine lv_iload_n hx hb dX8_allFail_32 rfl (lv_at hl 1 rfl) ?_
          obtain ⟨hi5, h⟩ := ck_of h
          refine wd_aldq hC hW 3 wC_c3 hi5 rfl dX8_allFail_33 ?_
          refine lv_iload_n hx hb dX8_allFail_34 rfl (lv_at hl 2 rfl) ?_
          refine lv_iload hx hb dX8_allFail_35 (lv_at hl 5 rfl) ?_
          refine lv_iload hx hb dX8_allFail_37 (lv_at hl 6 rfl) ?_
          refine lv_aload_n hx hb dX8_allFail_39 rfl (lv_at hl 0 rfl) ?_
          refine wd_get hC i8 hW 0 wC_c0 rfl 2 (Nat.le_of_ble_eq_true rfl) f28 rfl rfl dX8_allFail_40 ?_
          refine wd_get hC i4 hW 25 wC_c25 rfl 2 (Nat.le_of_ble_eq_true rfl) f111 rfl rfl dX8_allFail_43 ?_
          refine lv_imul hx hb dX8_allFail_46 ?_
          obtain ⟨r6, hr7, h⟩ := bd_of h
          refine wd_callV1 (As := [.int x2, .int x6, .int (x7 * (S.1 31))]) hC hW (4 + 3 * x1.toNatClampNeg) (wC_L (in_lt hi5)) rfl (c_X3_oddsOf l D cy ad X S x1.toNatClampNeg x2 x6 (x7 * (S.1 31)) r6 hr7 (in_lt hi5)) (cwV 3 hts (gu_V w_15_11 w_15_8 w_15_9 w_15_10 w_1_20) rfl rfl rfl hdX3_oddsOf ⟨Nat.le_of_ble_eq_true rfl, Nat.le_of_ble_eq_true rfl⟩) rfl hl.1 rfl (Nat.le_of_ble_eq_true rfl) ⟨Nat.zero_le _, Nat.zero_le _⟩ dX8_allFail_47 (fun H locs hW => ?_)
          refine lv_isub hx hb dX8_allFail_50 ?_
          refine lv_imul hx hb dX8_allFail_51 ?_
          refine lv_sipush (v := 1000) hx hb dX8_allFail_52 (by decide) ?_
          refine lv_idiv hx hb dX8_allFail_55 (by decide) ?_
          refine lv_istore (lv' := [(5, .int ((x5 * (1000 - r6)) / 1000)), (0, .ref (ad 0)), (1, .int x1), (2, .int x2), (4, .int x4), (6, .int x6), (7, .int x7)]) hx hb dX8_allFail_56 hl (by decide) rfl (fun ls hl => ?_)
          refine lv_iload hx hb dX8_allFail_58 (lv_at hl 5 rfl) ?_
          refine lv_iload hx hb dX8_allFail_60 (lv_at hl 4 rfl) ?_
          refine lv_iadd hx hb dX8_allFail_62 ?_
          refine lv_istore (lv' := [(6, .int (x6 + x4)), (5, .int ((x5 * (1000 - r6)) / 1000)), (0, .ref (ad 0)), (1, .int x1), (2, .int x2), (4, .int x4), (7, .int x7)]) hx hb dX8_allFail_63 hl (by decide) rfl (fun ls hl => ?_)
          refine lv_iinc (v := x7 + 1) (lv' := [(7, .int (x7 + 1)), (6, .int (x6 + x4)), (5, .int ((x5 * (1000 - r6)) / 1000)), (0, .ref (ad 0)), (1, .int x1), (2, .int x2), (4, .int x4)]) hx hb dX8_allFail_65 hl (k := 6) rfl rfl (by decide) rfl (fun ls hl => ?_)
          refine lv_goto (tgt := 10) hx hb dX8_allFail_68 (by decide) ?_
          exact ih x1 x2 x4 ((x5 * (1000 - r6)) / 1000) (x6 + x4) (x7 + 1) _ _ _ r h hW (lv_sub hl [3, 4, 5, 6, 2, 1, 0] rfl) kk
  obtain ⟨q1, hq2, h⟩ := bd_of h
  refine hL10 n p0 p1 p3 1000000 p2 0  _ _ _ q1 hq2 hW (lv_sub hl [3, 4, 5, 7, 2, 1, 0] rfl) (fun H locs ls hW hl => ?_)
  refine lv_iload hx hb dX8_allFail_71 (lv_at hl 4 rfl) ?_
  obtain rfl := Option.some.inj h
  exact wd_iret hA hQ hC hr hk hW dX8_allFail_73
def m_X6_prepare_L18 : Nat → St → Int32 → Option (St)
  | 0, _, _ => none
  | n + 1, S, x4 =>
    if 3 ≤ x4 then (some S) else (ck x4 3 (nm (sF S (48 + x4.toNatClampNeg) (fun _ => (-1))) (fun S11 => m_X6_prepare_L18 n S11 (x4 + 1))))
theorem m_X6_prepare_L18_0 (S : St) (x4 : Int32) : m_X6_prepare_L18 0 S x4 = none := rfl
theorem m_X6_prepare_L18_s {n : Nat} {S : St} {x4 : Int32} : m_X6_prepare_L18 (n + 1) S x4 =
    (if 3 ≤ x4 then (some S) else (ck x4 3 (nm (sF S (48 + x4.toNatClampNeg) (fun _ => (-1))) (fun S11 => m_X6_prepare_L18 n S11 (x4 + 1))))) := rfl
def m_X6_prepare (n : Nat) (S : St) (k0 : Nat) (p1 : Int32) : Option (St) :=
  nm (sR S 0 (some k0)) (fun S1 => nm (sI S1 61 p1) (fun S3 => nm (sR S3 1 (some 0)) (fun S5 => (m_X6_prepare_L18 n S5 0).bind (fun q7 => some q7))))
set_option maxHeartbeats 4000000 in
set_option maxRecDepth 100000 in
theorem c_X6_prepare (l : Launch) (D : va_G) (cy : Nat → ClassId) (ad : Nat → Nat) (X : va_W) (n : Nat) (S : St) (k0 : Nat) (p1 : Int32) (r : (St)) (h : m_X6_prepare n S k0 p1 = some r) (hk0 : k0 < 7) : CT l yX6_prepare (wu yX6_prepare cX6_prepare 5 none) 1 D cy [.ref (ad 46), .ref (ad (4 + 3 * k0)), .int p1, .ref (ad 44)] (wC ad cy S ++ X) (none) (wC ad cy r ++ X) := by
  refine CT.mk (cc := cX6_prepare) (maxL := 5) (ret := none) (own := RX6) (by decide) rfl rfl (Nat.le_of_ble_eq_true rfl) ?_
  intro p e s m args below meth c ls A Q hA hQ hC hr hk hW hl
  have hx := hC.1
  have hb := hC.2.1
  have hown := hC.2.2.2.1
  have hts := hC.2.2.2.2
  have hl : lv_has ls 5 [(0, .ref (ad 46)), (1, .ref (ad (4 + 3 * k0))), (2, .int p1), (3, .ref (ad 44))] := hl
  have f9 := hts _ (wu_in w_4_18)
  have i6 := (fun w h => wu_in (inc_6 w h) : ∀ w ∈ u_ws RX6 TX6 4, w ∈ (wu yX6_prepare cX6_prepare 5 none))
  have f15 := hts _ (wu_in w_4_19)
  have f19 := hts _ (wu_in w_4_20)
  have f25 := hts _ (wu_in w_4_22)
  unfold m_X6_prepare at h
  refine lv_aload_n hx hb dX6_prepare_0 rfl (lv_at hl 0 rfl) ?_
  refine lv_aload_n hx hb dX6_prepare_1 rfl (lv_at hl 1 rfl) ?_
  refine wd_put hC i6 tyX6_ok nmX6 hW 46 wC_c46 rfl 0 (Nat.le_of_ble_eq_true rfl) f9 rfl rfl rfl rfl (Nat.le_of_ble_eq_true rfl) (wC_r46_0 (j := k0)) dX6_prepare_2 (fun H locs hW => ?_)
  obtain ⟨S1, e2, h⟩ := nm_of h
  replace hW := wq_S e2 hW
  refine lv_aload_n hx hb dX6_prepare_5 rfl (lv_at hl 0 rfl) ?_
  refine lv_iload_n hx hb dX6_prepare_6 rfl (lv_at hl 2 rfl) ?_
  refine wd_put hC i6 tyX6_ok nmX6 hW 46 wC_c46 rfl 1 (Nat.le_of_ble_eq_true rfl) f15 rfl rfl rfl rfl (Nat.le_of_ble_eq_true rfl) wC_s46_1 dX6_prepare_7 (fun H locs hW => ?_)
  obtain ⟨S3, e4, h⟩ := nm_of h
  replace hW := wq_S e4 hW
  refine lv_aload_n hx hb dX6_prepare_10 rfl (lv_at hl 0 rfl) ?_
  refine lv_aload_n hx hb dX6_prepare_11 rfl (lv_at hl 3 rfl) ?_
  refine wd_put hC i6 tyX6_ok nmX6 hW 46 wC_c46 rfl 2 (Nat.le_of_ble_eq_true rfl) f19 rfl rfl rfl rfl (Nat.le_of_ble_eq_true rfl) (wC_r46_2 (j := 0)) dX6_prepare_12 (fun H locs hW => ?_)
  obtain ⟨S5, e6, h⟩ := nm_of h
  replace hW := wq_S e6 hW
  refine lv_iconst (v := 0) hx hb dX6_prepare_15 (by decide) ?_
  refine lv_istore (lv' := [(4, .int 0), (0, .ref (ad 46)), (1, .ref (ad (4 + 3 * k0))), (2, .int p1), (3, .ref (ad 44))]) hx hb dX6_prepare_16 hl (by decide) rfl (fun ls hl => ?_)
  have hL18 : ∀ (n : Nat) (S : St) (x4 : Int32)  (H : Heap) (locs : List Loc) (ls : Array Slot) (r : (St)), m_X6_prepare_L18 n S x4 = some r → Wd D cy A s (wC ad cy S ++ X) H locs → lv_has ls 5 [(0, .ref (ad 46)), (4, .int x4)] → (∀ (H : Heap) (locs : List Loc) (ls : Array Slot), Wd D cy A s (wC ad cy r ++ X) H locs → lv_has ls 5 [(0, .ref (ad 46))] → W p l e (RM 1) s m args below meth c H locs 0 0 Q (F0 m 41 ls [])) → W p l e (RM 1) s m args below meth c H locs 0 0 Q (F0 m 18 ls []) := by
    intro n
    induction n with
    | zero =>
      intro S x4  H locs ls r h
      exact absurd (h.symm.trans (m_X6_prepare_L18_0 ..)) (by simp)
    | succ n ih =>
      intro S x4  H locs ls r h hW hl kk
      rw [m_X6_prepare_L18_s] at h
      refine lv_iload hx hb dX6_prepare_18 (lv_at hl 1 rfl) ?_
      refine lv_iconst (v := 3) hx hb dX6_prepare_20 (by decide) ?_
      refine lv_icmp_ge (tgt := 41) hx hb dX6_prepare_21 (by decide) (fun c9 => ?_) (fun c9 => ?_)
      · replace h := ite_t h c9
        obtain rfl := Option.some.inj h
        exact kk _ _ _ hW (lv_sub hl [0] rfl)
      · replace h := ite_f h c9
        refine lv_aload_n hx hb dX6_prepare_24 rfl (lv_at hl 0 rfl) ?_
        refine wd_get hC i6 hW 46 wC_c46 rfl 3 (Nat.le_of_ble_eq_true rfl) f25 rfl rfl dX6_prepare_25 ?_
        refine lv_iload hx hb dX6_prepare_28 (lv_at hl 1 rfl) ?_
        obtain ⟨hi10, h⟩ := ck_of h
        refine wd_aldg hC hW 47 wC_c47 hi10 rfl dX6_prepare_30 ?_
        refine lv_iconst (v := (-1)) hx hb dX6_prepare_31 (by decide) ?_
        refine wd_callS0 (As := [.ref (ad (48 + x4.toNatClampNeg)), .int (-1)]) hC hW (c_fill l D cy (48 + x4.toNatClampNeg) (ad (48 + x4.toNatClampNeg)) 242 _ (-1) (wG_ps (in_lt hi10)) (by decide) (wG_ps_f (in_lt hi10))) (va_cwS 2 hts (gu_S w_26_0 w_25_21 w_25_22 w_25_23) rfl rfl rfl hdJ7_fill_53178 ⟨Nat.le_of_ble_eq_true rfl, Nat.le_of_ble_eq_true rfl⟩) rfl hl.1 rfl (Nat.le_of_ble_eq_true rfl) ⟨Nat.zero_le _, Nat.zero_le _⟩ dX6_prepare_32 (fun H locs hW => ?_)
        obtain ⟨S11, e12, h⟩ := nm_of h
        replace hW := wq_S e12 hW
        refine lv_iinc (v := x4 + 1) (lv' := [(4, .int (x4 + 1)), (0, .ref (ad 46))]) hx hb dX6_prepare_35 hl (k := 1) rfl rfl (by decide) rfl (fun ls hl => ?_)
        refine lv_goto (tgt := 18) hx hb dX6_prepare_38 (by decide) ?_
        exact ih S11 (x4 + 1) _ _ _ r h hW (lv_sub hl [1, 0] rfl) kk
  obtain ⟨q7, hq8, h⟩ := bd_of h
  refine hL18 n S5 0  _ _ _ q7 hq8 hW (lv_sub hl [1, 0] rfl) (fun H locs ls hW hl => ?_)
  obtain rfl := Option.some.inj h
  exact wd_vret hA hQ hC hr hk hW dX6_prepare_41
def m_X6_startOf (vt : St → Int32 → Int32 → Int32 → Int32 → Int32 → Int32 → Option (Int32 × St)) (S : St) (p0 : Int32) (p1 : Int32) : Option (Int32 × St) :=
  if p1 < 0 then (some (0, S)) else (if p1 < 242 then (if p0 < 3 then (ck p0 3 (ck p1 242 (((if 0 ≤ (S.2.1 (48 + p0.toNatClampNeg) p1.toNatClampNeg) then (some S) else (ck p0 3 (onw (S.2.2.2 0) 7 (fun j12 => ck (p0 * 3) 9 ((vt S p0 p1 (S.2.1 (6 + 3 * j12) (p0 * 3).toNatClampNeg) 0 0 3).bind (fun r16 => ck p1 242 (nm (sA r16.2 (48 + p0.toNatClampNeg) p1.toNatClampNeg r16.1) (fun S19 => some S19))))))) : Option (St))).bind (fun q7 => ck p0 3 (ck p1 242 (some (q7.2.1 (48 + p0.toNatClampNeg) p1.toNatClampNeg, q7))))))) else (onw (S.2.2.2 1) 1 (fun j21 => ck p1 242 (some (S.2.1 45 p1.toNatClampNeg, S))))) else (some (0, S)))
set_option maxHeartbeats 4000000 in
set_option maxRecDepth 100000 in
theorem c_X6_startOf (l : Launch) (D : va_G) (cy : Nat → ClassId) (ad : Nat → Nat) (X : va_W) (vt : St → Int32 → Int32 → Int32 → Int32 → Int32 → Int32 → Option (Int32 × St)) (dd : Nat) (hf : ∀ (S : St) (p0 p1 p2 p3 p4 p5 : Int32) (r : Int32 × St), vt S p0 p1 p2 p3 p4 p5 = some r → CT l yX6_valueOfTry (wu yX6_valueOfTry cX6_valueOfTry 9 (some .int)) dd D cy [.ref (ad 46), .int p0, .int p1, .int p2, .int p3, .int p4, .int p5] (wC ad cy S ++ X) (some (.int r.1)) (wC ad cy r.2 ++ X)) (S : St) (p0 : Int32) (p1 : Int32) (r : (Int32 × St)) (h : m_X6_startOf vt S p0 p1 = some r) : CT l yX6_startOf (wu yX6_startOf cX6_startOf 3 (some .int)) (dd + 1) D cy [.ref (ad 46), .int p0, .int p1] (wC ad cy S ++ X) (some (.int r.1)) (wC ad cy r.2 ++ X) := by
  refine CT.mk (cc := cX6_startOf) (maxL := 3) (ret := (some .int)) (own := RX6) (by decide) rfl rfl (Nat.le_of_ble_eq_true rfl) ?_
  intro p e s m args below meth c ls A Q hA hQ hC hr hk hW hl
  have hx := hC.1
  have hb := hC.2.1
  have hown := hC.2.2.2.1
  have hts := hC.2.2.2.2
  have hl : lv_has ls 3 [(0, .ref (ad 46)), (1, .int p0), (2, .int p1)] := hl
  have f25 := hts _ (wu_in w_4_22)
  have i6 := (fun w h => wu_in (inc_6 w h) : ∀ w ∈ u_ws RX6 TX6 4, w ∈ (wu yX6_startOf cX6_startOf 3 (some .int)))
  have f9 := hts _ (wu_in w_4_18)
  have f74 := hts _ (wu_in w_27_15)
  have i3 := (fun w h => wu_in (inc_3 w h) : ∀ w ∈ u_ws RX3 TX3 4, w ∈ (wu yX6_startOf cX6_startOf 3 (some .int)))
  have f19 := hts _ (wu_in w_4_20)
  have f70 := hts _ (wu_in w_27_14)
  have i0 := (fun w h => wu_in (inc_0 w h) : ∀ w ∈ u_ws RX0 TX0 2, w ∈ (wu yX6_startOf cX6_startOf 3 (some .int)))
  unfold m_X6_startOf at h
  refine lv_iload_n hx hb dX6_startOf_0 rfl (lv_at hl 2 rfl) ?_
  refine lv_if_lt (tgt := 11) hx hb dX6_startOf_1 (by decide) (fun c1 => ?_) (fun c1 => ?_)
  · replace h := ite_t h c1
    refine lv_iconst (v := 0) hx hb dX6_startOf_11 (by decide) ?_
    obtain rfl := Option.some.inj h
    exact wd_iret hA hQ hC hr hk hW dX6_startOf_12
  · replace h := ite_f h c1
    refine lv_iload_n hx hb dX6_startOf_4 rfl (lv_at hl 2 rfl) ?_
    refine lv_sipush (v := 242) hx hb dX6_startOf_5 (by decide) ?_
    refine lv_icmp_lt (tgt := 13) hx hb dX6_startOf_8 (by decide) (fun c2 => ?_) (fun c2 => ?_)
    · replace h := ite_t h c2
      refine lv_iload_n hx hb dX6_startOf_13 rfl (lv_at hl 1 rfl) ?_
      refine lv_iconst (v := 3) hx hb dX6_startOf_14 (by decide) ?_
      refine lv_icmp_lt (tgt := 28) hx hb dX6_startOf_15 (by decide) (fun c3 => ?_) (fun c3 => ?_)
      · replace h := ite_t h c3
        refine lv_aload_n hx hb dX6_startOf_28 rfl (lv_at hl 0 rfl) ?_
        refine wd_get hC i6 hW 46 wC_c46 rfl 3 (Nat.le_of_ble_eq_true rfl) f25 rfl rfl dX6_startOf_29 ?_
        refine lv_iload_n hx hb dX6_startOf_32 rfl (lv_at hl 1 rfl) ?_
        obtain ⟨hi4, h⟩ := ck_of h
        refine wd_aldg hC hW 47 wC_c47 hi4 rfl dX6_startOf_33 ?_
        refine lv_iload_n hx hb dX6_startOf_34 rfl (lv_at hl 2 rfl) ?_
        obtain ⟨hi5, h⟩ := ck_of h
        refine wd_iald hC hW (48 + p0.toNatClampNeg) (wG_ps (in_lt hi4)) hi5 dX6_startOf_35 ?_
        obtain ⟨q7, hq8, h⟩ := bd_of h
        have hJ67 : ∀ (H : Heap) (locs : List Loc) (ls : Array Slot), Wd D cy A s (wC ad cy q7 ++ X) H locs → lv_has ls 3 [(0, .ref (ad 46)), (1, .int p0), (2, .int p1)] → W p l e (RM (dd + 1)) s m args below meth c H locs 0 0 Q (F0 m 67 ls []) := by
          intro H locs ls hW hl
          refine lv_aload_n hx hb dX6_startOf_67 rfl (lv_at hl 0 rfl) ?_
          refine wd_get hC i6 hW 46 wC_c46 rfl 3 (Nat.le_of_ble_eq_true rfl) f25 rfl rfl dX6_startOf_68 ?_
          refine lv_iload_n hx hb dX6_startOf_71 rfl (lv_at hl 1 rfl) ?_
          obtain ⟨hi9, h⟩ := ck_of h
          refine wd_aldg hC hW 47 wC_c47 hi9 rfl dX6_startOf_72 ?_
          refine lv_iload_n hx hb dX6_startOf_73 rfl (lv_at hl 2 rfl) ?_
          obtain ⟨hi10, h⟩ := ck_of h
          refine wd_iald hC hW (48 + p0.toNatClampNeg) (wG_ps (in_lt hi9)) hi10 dX6_startOf_74 ?_
          obtain rfl := Option.some.inj h
          exact wd_iret hA hQ hC hr hk hW dX6_startOf_75
        replace h := hq8
        refine lv_if_ge (tgt := 67) hx hb dX6_startOf_36 (by decide) (fun c6 => ?_) (fun c6 => ?_)
        · replace h := ite_t h c6
          obtain rfl := Option.some.inj h
          exact hJ67 _ _ _ hW (lv_sub hl [0, 1, 2] rfl)
        · replace h := ite_f h c6
          refine lv_aload_n hx hb dX6_startOf_39 rfl (lv_at hl 0 rfl) ?_
          refine wd_get hC i6 hW 46 wC_c46 rfl 3 (Nat.le_of_ble_eq_true rfl) f25 rfl rfl dX6_startOf_40 ?_
          refine lv_iload_n hx hb dX6_startOf_43 rfl (lv_at hl 1 rfl) ?_
          obtain ⟨hi11, h⟩ := ck_of h
          refine wd_aldg hC hW 47 wC_c47 hi11 rfl dX6_startOf_44 ?_
          refine lv_iload_n hx hb dX6_startOf_45 rfl (lv_at hl 2 rfl) ?_
          refine lv_aload_n hx hb dX6_startOf_46 rfl (lv_at hl 0 rfl) ?_
          refine lv_iload_n hx hb dX6_startOf_47 rfl (lv_at hl 1 rfl) ?_
          refine lv_iload_n hx hb dX6_startOf_48 rfl (lv_at hl 2 rfl) ?_
          refine lv_aload_n hx hb dX6_startOf_49 rfl (lv_at hl 0 rfl) ?_
          obtain ⟨j12, ej13, hj14, h⟩ := onw_of h
          refine wd_get (v := .ref (ad (4 + 3 * j12))) hC i6 hW 46 wC_c46 rfl 0 (Nat.le_of_ble_eq_true rfl) f9 rfl (congrArg some (by rw [ej13]; rfl)) dX6_startOf_50 ?_
          refine wd_get hC i3 hW (4 + 3 * j12) (wC_L hj14) rfl 3 (Nat.le_of_ble_eq_true rfl) f74 rfl rfl dX6_startOf_53 ?_
          refine lv_iload_n hx hb dX6_startOf_56 rfl (lv_at hl 1 rfl) ?_
          refine lv_iconst (v := 3) hx hb dX6_startOf_57 (by decide) ?_
          refine lv_imul hx hb dX6_startOf_58 ?_
          obtain ⟨hi15, h⟩ := ck_of h
          refine wd_iald hC hW (6 + 3 * j12) (wC_Lp hj14) hi15 dX6_startOf_59 ?_
          refine lv_iconst (v := 0) hx hb dX6_startOf_60 (by decide) ?_
          refine lv_iconst (v := 0) hx hb dX6_startOf_61 (by decide) ?_
          refine lv_iconst (v := 3) hx hb dX6_startOf_62 (by decide) ?_
          obtain ⟨r16, hr17, h⟩ := bd_of h
          refine wd_callV1 (As := [.int p0, .int p1, .int (S.2.1 (6 + 3 * j12) (p0 * 3).toNatClampNeg), .int 0, .int 0, .int 3]) hC hW 46 wC_c46 rfl (hf S p0 p1 (S.2.1 (6 + 3 * j12) (p0 * 3).toNatClampNeg) 0 0 3 r16 hr17) (cwV 6 hts (gu_V w_27_19 w_27_16 w_27_17 w_27_18 w_2_12) rfl rfl rfl hdX6_valueOfTry ⟨(show (dd) + 1 ≤ dd + 1 by omega), (show 8 + (9 + 11) + 40 * (dd) ≤ 40 * (dd + 1) by omega)⟩) rfl hl.1 rfl (Nat.le_of_ble_eq_true rfl) ⟨Nat.zero_le _, Nat.zero_le _⟩ dX6_startOf_63 (fun H locs hW => ?_)
          obtain ⟨hi18, h⟩ := ck_of h
          refine wd_iast hC hW (48 + p0.toNatClampNeg) (wG_ps (in_lt hi11)) hi18 (wG_ps_t (in_lt hi11)) dX6_startOf_66 (fun H locs hW => ?_)
          obtain ⟨S19, e20, h⟩ := nm_of h
          replace hW := wq_S e20 hW
          obtain rfl := Option.some.inj h
          exact hJ67 _ _ _ hW (lv_sub hl [0, 1, 2] rfl)
      · replace h := ite_f h c3
        refine lv_aload_n hx hb dX6_startOf_18 rfl (lv_at hl 0 rfl) ?_
        obtain ⟨j21, ej22, hj23, h⟩ := onw_of h
        refine wd_get (v := .ref (ad 44)) hC i6 hW 46 wC_c46 rfl 2 (Nat.le_of_ble_eq_true rfl) f19 rfl (congrArg some (by rw [ej22]; rfl)) dX6_startOf_19 ?_
        refine wd_get hC i0 hW 44 wC_c44 rfl 0 (Nat.le_of_ble_eq_true rfl) f70 rfl rfl dX6_startOf_22 ?_
        refine lv_iload_n hx hb dX6_startOf_25 rfl (lv_at hl 2 rfl) ?_
        obtain ⟨hi24, h⟩ := ck_of h
        refine wd_iald hC hW 45 wC_c45 hi24 dX6_startOf_26 ?_
        obtain rfl := Option.some.inj h
        exact wd_iret hA hQ hC hr hk hW dX6_startOf_27
    · replace h := ite_f h c2
      refine lv_iconst (v := 0) hx hb dX6_startOf_11 (by decide) ?_
      obtain rfl := Option.some.inj h
      exact wd_iret hA hQ hC hr hk hW dX6_startOf_12
def m_X6_valueOfTry : Nat → St → Int32 → Int32 → Int32 → Int32 → Int32 → Int32 → Option (Int32 × St)
  | 0, _, _, _, _, _, _, _ => none
  | g + 1, S, p0, p1, p2, p3, p4, p5 =>
    if p5 ≤ 0 then (if p3 = 0 then (onw (S.2.2.2 1) 1 (fun j5 => some (S.1 60, S))) else ((m_X6_startOf (m_X6_valueOfTry g) S (p0 + 1) (p1 + p3)).bind (fun r3 => some (r3.1, r3.2)))) else (if p2 < 1 then (if p3 = 0 then (onw (S.2.2.2 1) 1 (fun j12 => some (S.1 60, S))) else ((m_X6_startOf (m_X6_valueOfTry g) S (p0 + 1) (p1 + p3)).bind (fun r10 => some (r10.1, r10.2)))) else (if p2 ≤ 40 then (onw (S.2.2.2 0) 7 (fun j16 => ck ((p0 * 3) + 1) 9 ((m_X6_valueOfTry g S p0 p1 (p2 + (S.2.1 (6 + 3 * j16) ((p0 * 3) + 1).toNatClampNeg)) (mx p3 p2) p4 (p5 - 1)).bind (fun r20 => onw (r20.2.2.2.2 0) 7 (fun j22 => ck ((p0 * 3) + 2) 9 ((m_X6_valueOfTry g r20.2 p0 p1 (p2 + (r20.2.2.1 (6 + 3 * j22) ((p0 * 3) + 2).toNatClampNeg)) p3 (p4 + 1) (p5 - 1)).bind (fun r26 => onw (r26.2.2.2.2 0) 7 (fun j28 => (m_X3_oddsOf r26.2 j28 p0 p2 (p4 * (r26.2.1 61))).bind (fun r31 => (m_X8_mix r26.2 r31 r20.1 r26.1).bind (fun r33 => some (r33, r26.2))))))))))) else (if p3 = 0 then (onw (S.2.2.2 1) 1 (fun j38 => some (S.1 60, S))) else ((m_X6_startOf (m_X6_valueOfTry g) S (p0 + 1) (p1 + p3)).bind (fun r36 => some (r36.1, r36.2))))))
theorem m_X6_valueOfTry_s {g : Nat} {S : St} {p0 : Int32} {p1 : Int32} {p2 : Int32} {p3 : Int32} {p4 : Int32} {p5 : Int32} : m_X6_valueOfTry (g + 1) S p0 p1 p2 p3 p4 p5 =
    (if p5 ≤ 0 then (if p3 = 0 then (onw (S.2.2.2 1) 1 (fun j5 => some (S.1 60, S))) else ((m_X6_startOf (m_X6_valueOfTry g) S (p0 + 1) (p1 + p3)).bind (fun r3 => some (r3.1, r3.2)))) else (if p2 < 1 then (if p3 = 0 then (onw (S.2.2.2 1) 1 (fun j12 => some (S.1 60, S))) else ((m_X6_startOf (m_X6_valueOfTry g) S (p0 + 1) (p1 + p3)).bind (fun r10 => some (r10.1, r10.2)))) else (if p2 ≤ 40 then (onw (S.2.2.2 0) 7 (fun j16 => ck ((p0 * 3) + 1) 9 ((m_X6_valueOfTry g S p0 p1 (p2 + (S.2.1 (6 + 3 * j16) ((p0 * 3) + 1).toNatClampNeg)) (mx p3 p2) p4 (p5 - 1)).bind (fun r20 => onw (r20.2.2.2.2 0) 7 (fun j22 => ck ((p0 * 3) + 2) 9 ((m_X6_valueOfTry g r20.2 p0 p1 (p2 + (r20.2.2.1 (6 + 3 * j22) ((p0 * 3) + 2).toNatClampNeg)) p3 (p4 + 1) (p5 - 1)).bind (fun r26 => onw (r26.2.2.2.2 0) 7 (fun j28 => (m_X3_oddsOf r26.2 j28 p0 p2 (p4 * (r26.2.1 61))).bind (fun r31 => (m_X8_mix r26.2 r31 r20.1 r26.1).bind (fun r33 => some (r33, r26.2))))))))))) else (if p3 = 0 then (onw (S.2.2.2 1) 1 (fun j38 => some (S.1 60, S))) else ((m_X6_startOf (m_X6_valueOfTry g) S (p0 + 1) (p1 + p3)).bind (fun r36 => some (r36.1, r36.2))))))) := rfl
set_option maxHeartbeats 4000000 in
set_option maxRecDepth 100000 in
theorem c_X6_valueOfTry (l : Launch) (D : va_G) (cy : Nat → ClassId) (ad : Nat → Nat) (X : va_W)  : ∀ (g : Nat) (S : St) (p0 : Int32) (p1 : Int32) (p2 : Int32) (p3 : Int32) (p4 : Int32) (p5 : Int32) (r : (Int32 × St)) (h : m_X6_valueOfTry g S p0 p1 p2 p3 p4 p5 = some r), CT l yX6_valueOfTry (wu yX6_valueOfTry cX6_valueOfTry 9 (some .int)) (2 * g) D cy [.ref (ad 46), .int p0, .int p1, .int p2, .int p3, .int p4, .int p5] (wC ad cy S ++ X) (some (.int r.1)) (wC ad cy r.2 ++ X) := by
  intro g
  induction g with
  | zero =>
    intro S p0 p1 p2 p3 p4 p5 r h
    exact absurd (h.symm.trans (show m_X6_valueOfTry 0 S p0 p1 p2 p3 p4 p5 = none from rfl)) (by simp)
  | succ g ih =>
    intro S p0 p1 p2 p3 p4 p5 r h
    rw [m_X6_valueOfTry_s] at h
    refine CT.mk (cc := cX6_valueOfTry) (maxL := 9) (ret := (some .int)) (own := RX6) (by decide) rfl rfl (Nat.le_of_ble_eq_true rfl) ?_
    intro p e s m args below meth c ls A Q hA hQ hC hr hk hW hl
    have hx := hC.1
    have hb := hC.2.1
    have hown := hC.2.2.2.1
    have hts := hC.2.2.2.2
    have hl : lv_has ls 9 [(0, .ref (ad 46)), (1, .int p0), (2, .int p1), (3, .int p2), (4, .int p3), (5, .int p4), (6, .int p5)] := hl
    have f19 := hts _ (wu_in w_4_20)
    have i6 := (fun w h => wu_in (inc_6 w h) : ∀ w ∈ u_ws RX6 TX6 4, w ∈ (wu yX6_valueOfTry cX6_valueOfTry 9 (some .int)))
    have f40 := hts _ (wu_in w_27_3)
    have i0 := (fun w h => wu_in (inc_0 w h) : ∀ w ∈ u_ws RX0 TX0 2, w ∈ (wu yX6_valueOfTry cX6_valueOfTry 9 (some .int)))
    have f9 := hts _ (wu_in w_4_18)
    have f74 := hts _ (wu_in w_27_15)
    have i3 := (fun w h => wu_in (inc_3 w h) : ∀ w ∈ u_ws RX3 TX3 4, w ∈ (wu yX6_valueOfTry cX6_valueOfTry 9 (some .int)))
    have ml79 := hts _ (wu_in w_27_20)
    have msmax := hts _ (wu_in w_15_13)
    have mi := hts _ (wu_in w_15_14)
    have mcmax := hts _ (wu_in w_15_15)
    have f15 := hts _ (wu_in w_4_19)
    have csmix := hts _ (wu_in w_27_22)
    have ci8 := hts _ (wu_in w_1_2)
    refine lv_iload hx hb dX6_valueOfTry_0 (lv_at hl 6 rfl) ?_
    refine lv_if_le (tgt := 16) hx hb dX6_valueOfTry_2 (by decide) (fun c1 => ?_) (fun c1 => ?_)
    · replace h := ite_t h c1
      refine lv_iload hx hb dX6_valueOfTry_16 (lv_at hl 4 rfl) ?_
      refine lv_if_ne (tgt := 31) hx hb dX6_valueOfTry_18 (by decide) (fun c2 => ?_) (fun c2 => ?_)
      · replace h := ite_f h c2
        refine lv_aload_n hx hb dX6_valueOfTry_31 rfl (lv_at hl 0 rfl) ?_
        refine lv_iload_n hx hb dX6_valueOfTry_32 rfl (lv_at hl 1 rfl) ?_
        refine lv_iconst (v := 1) hx hb dX6_valueOfTry_33 (by decide) ?_
        refine lv_iadd hx hb dX6_valueOfTry_34 ?_
        refine lv_iload_n hx hb dX6_valueOfTry_35 rfl (lv_at hl 2 rfl) ?_
        refine lv_iload hx hb dX6_valueOfTry_36 (lv_at hl 4 rfl) ?_
        refine lv_iadd hx hb dX6_valueOfTry_38 ?_
        obtain ⟨r3, hr4, h⟩ := bd_of h
        refine wd_callV1 (As := [.int (p0 + 1), .int (p1 + p3)]) hC hW 46 wC_c46 rfl (c_X6_startOf l D cy ad X (m_X6_valueOfTry g) (2 * g) ih S (p0 + 1) (p1 + p3) r3 hr4) (cwV 2 hts (gu_V w_27_13 w_27_10 w_27_11 w_27_12 w_2_12) rfl rfl rfl hdX6_startOf ⟨(show (2 * g + 1) + 1 ≤ 2 * (g + 1) by omega), (show 8 + (3 + 11) + 40 * (2 * g + 1) ≤ 40 * (2 * (g + 1)) by omega)⟩) rfl hl.1 rfl (Nat.le_of_ble_eq_true rfl) ⟨Nat.zero_le _, Nat.zero_le _⟩ dX6_valueOfTry_39 (fun H locs hW => ?_)
        obtain rfl := Option.some.inj h
        exact wd_iret hA hQ hC hr hk hW dX6_valueOfTry_42
      · replace h := ite_t h c2
        refine lv_aload_n hx hb dX6_valueOfTry_21 rfl (lv_at hl 0 rfl) ?_
        obtain ⟨j5, ej6, hj7, h⟩ := onw_of h
        refine wd_get (v := .ref (ad 44)) hC i6 hW 46 wC_c46 rfl 2 (Nat.le_of_ble_eq_true rfl) f19 rfl (congrArg some (by rw [ej6]; rfl)) dX6_valueOfTry_22 ?_
        refine wd_get hC i0 hW 44 wC_c44 rfl 1 (Nat.le_of_ble_eq_true rfl) f40 rfl rfl dX6_valueOfTry_25 ?_
        refine lv_goto (tgt := 42) hx hb dX6_valueOfTry_28 (by decide) ?_
        obtain rfl := Option.some.inj h
        exact wd_iret hA hQ hC hr hk hW dX6_valueOfTry_42
    · replace h := ite_f h c1
      refine lv_iload_n hx hb dX6_valueOfTry_5 rfl (lv_at hl 3 rfl) ?_
      refine lv_iconst (v := 1) hx hb dX6_valueOfTry_6 (by decide) ?_
      refine lv_icmp_lt (tgt := 16) hx hb dX6_valueOfTry_7 (by decide) (fun c8 => ?_) (fun c8 => ?_)
      · replace h := ite_t h c8
        refine lv_iload hx hb dX6_valueOfTry_16 (lv_at hl 4 rfl) ?_
        refine lv_if_ne (tgt := 31) hx hb dX6_valueOfTry_18 (by decide) (fun c9 => ?_) (fun c9 => ?_)
        · replace h := ite_f h c9
          refine lv_aload_n hx hb dX6_valueOfTry_31 rfl (lv_at hl 0 rfl) ?_
          refine lv_iload_n hx hb dX6_valueOfTry_32 rfl (lv_at hl 1 rfl) ?_
          refine lv_iconst (v := 1) hx hb dX6_valueOfTry_33 (by decide) ?_
          refine lv_iadd hx hb dX6_valueOfTry_34 ?_
          refine lv_iload_n hx hb dX6_valueOfTry_35 rfl (lv_at hl 2 rfl) ?_
          refine lv_iload hx hb dX6_valueOfTry_36 (lv_at hl 4 rfl) ?_
          refine lv_iadd hx hb dX6_valueOfTry_38 ?_
          obtain ⟨r10, hr11, h⟩ := bd_of h
          refine wd_callV1 (As := [.int (p0 + 1), .int (p1 + p3)]) hC hW 46 wC_c46 rfl (c_X6_startOf l D cy ad X (m_X6_valueOfTry g) (2 * g) ih S (p0 + 1) (p1 + p3) r10 hr11) (cwV 2 hts (gu_V w_27_13 w_27_10 w_27_11 w_27_12 w_2_12) rfl rfl rfl hdX6_startOf ⟨(show (2 * g + 1) + 1 ≤ 2 * (g + 1) by omega), (show 8 + (3 + 11) + 40 * (2 * g + 1) ≤ 40 * (2 * (g + 1)) by omega)⟩) rfl hl.1 rfl (Nat.le_of_ble_eq_true rfl) ⟨Nat.zero_le _, Nat.zero_le _⟩ dX6_valueOfTry_39 (fun H locs hW => ?_)
          obtain rfl := Option.some.inj h
          exact wd_iret hA hQ hC hr hk hW dX6_valueOfTry_42
        · replace h := ite_t h c9
          refine lv_aload_n hx hb dX6_valueOfTry_21 rfl (lv_at hl 0 rfl) ?_
          obtain ⟨j12, ej13, hj14, h⟩ := onw_of h
          refine wd_get (v := .ref (ad 44)) hC i6 hW 46 wC_c46 rfl 2 (Nat.le_of_ble_eq_true rfl) f19 rfl (congrArg some (by rw [ej13]; rfl)) dX6_valueOfTry_22 ?_
          refine wd_get hC i0 hW 44 wC_c44 rfl 1 (Nat.le_of_ble_eq_true rfl) f40 rfl rfl dX6_valueOfTry_25 ?_
          refine lv_goto (tgt := 42) hx hb dX6_valueOfTry_28 (by decide) ?_
          obtain rfl := Option.some.inj h
          exact wd_iret hA hQ hC hr hk hW dX6_valueOfTry_42
      · replace h := ite_f h c8
        refine lv_iload_n hx hb dX6_valueOfTry_10 rfl (lv_at hl 3 rfl) ?_
        refine lv_bipush (v := 40) hx hb dX6_valueOfTry_11 (by decide) ?_
        refine lv_icmp_le (tgt := 43) hx hb dX6_valueOfTry_13 (by decide) (fun c15 => ?_) (fun c15 => ?_)
        · replace h := ite_t h c15
          refine lv_aload_n hx hb dX6_valueOfTry_43 rfl (lv_at hl 0 rfl) ?_
          refine lv_iload_n hx hb dX6_valueOfTry_44 rfl (lv_at hl 1 rfl) ?_
          refine lv_iload_n hx hb dX6_valueOfTry_45 rfl (lv_at hl 2 rfl) ?_
          refine lv_iload_n hx hb dX6_valueOfTry_46 rfl (lv_at hl 3 rfl) ?_
          refine lv_aload_n hx hb dX6_valueOfTry_47 rfl (lv_at hl 0 rfl) ?_
          obtain ⟨j16, ej17, hj18, h⟩ := onw_of h
          refine wd_get (v := .ref (ad (4 + 3 * j16))) hC i6 hW 46 wC_c46 rfl 0 (Nat.le_of_ble_eq_true rfl) f9 rfl (congrArg some (by rw [ej17]; rfl)) dX6_valueOfTry_48 ?_
          refine wd_get hC i3 hW (4 + 3 * j16) (wC_L hj18) rfl 3 (Nat.le_of_ble_eq_true rfl) f74 rfl rfl dX6_valueOfTry_51 ?_
          refine lv_iload_n hx hb dX6_valueOfTry_54 rfl (lv_at hl 1 rfl) ?_
          refine lv_iconst (v := 3) hx hb dX6_valueOfTry_55 (by decide) ?_
          refine lv_imul hx hb dX6_valueOfTry_56 ?_
          refine lv_iconst (v := 1) hx hb dX6_valueOfTry_57 (by decide) ?_
          refine lv_iadd hx hb dX6_valueOfTry_58 ?_
          obtain ⟨hi19, h⟩ := ck_of h
          refine wd_iald hC hW (6 + 3 * j16) (wC_Lp hj18) hi19 dX6_valueOfTry_59 ?_
          refine lv_iadd hx hb dX6_valueOfTry_60 ?_
          refine lv_iload hx hb dX6_valueOfTry_61 (lv_at hl 4 rfl) ?_
          refine lv_iload_n hx hb dX6_valueOfTry_63 rfl (lv_at hl 3 rfl) ?_
          refine wd_max hC hl.1 ml79 msmax mi mcmax (show 1 ≤ 2 * (g + 1) by omega) (Nat.le_trans (Nat.le_of_ble_eq_true rfl : _ ≤ 40) (show 40 ≤ 40 * (2 * (g + 1)) by omega)) (Nat.zero_le _) (Nat.zero_le _) dX6_valueOfTry_64 ?_
          refine lv_iload hx hb dX6_valueOfTry_67 (lv_at hl 5 rfl) ?_
          refine lv_iload hx hb dX6_valueOfTry_69 (lv_at hl 6 rfl) ?_
          refine lv_iconst (v := 1) hx hb dX6_valueOfTry_71 (by decide) ?_
          refine lv_isub hx hb dX6_valueOfTry_72 ?_
          obtain ⟨r20, hr21, h⟩ := bd_of h
          refine wd_callV1 (As := [.int p0, .int p1, .int (p2 + (S.2.1 (6 + 3 * j16) ((p0 * 3) + 1).toNatClampNeg)), .int (mx p3 p2), .int p4, .int (p5 - 1)]) hC hW 46 wC_c46 rfl (ih S p0 p1 (p2 + (S.2.1 (6 + 3 * j16) ((p0 * 3) + 1).toNatClampNeg)) (mx p3 p2) p4 (p5 - 1) r20 hr21) (cwV 6 hts (gu_V w_27_19 w_27_16 w_27_17 w_27_18 w_2_12) rfl rfl rfl hdX6_valueOfTry ⟨(show (2 * g) + 1 ≤ 2 * (g + 1) by omega), (show 8 + (9 + 11) + 40 * (2 * g) ≤ 40 * (2 * (g + 1)) by omega)⟩) rfl hl.1 rfl (Nat.le_of_ble_eq_true rfl) ⟨Nat.zero_le _, Nat.zero_le _⟩ dX6_valueOfTry_73 (fun H locs hW => ?_)
          refine lv_istore (lv' := [(7, .int r20.1), (0, .ref (ad 46)), (1, .int p0), (2, .int p1), (3, .int p2), (4, .int p3), (5, .int p4), (6, .int p5)]) hx hb dX6_valueOfTry_76 hl (by decide) rfl (fun ls hl => ?_)
          refine lv_aload_n hx hb dX6_valueOfTry_78 rfl (lv_at hl 1 rfl) ?_
          refine lv_iload_n hx hb dX6_valueOfTry_79 rfl (lv_at hl 2 rfl) ?_
          refine lv_iload_n hx hb dX6_valueOfTry_80 rfl (lv_at hl 3 rfl) ?_
          refine lv_iload_n hx hb dX6_valueOfTry_81 rfl (lv_at hl 4 rfl) ?_
          refine lv_aload_n hx hb dX6_valueOfTry_82 rfl (lv_at hl 1 rfl) ?_
          obtain ⟨j22, ej23, hj24, h⟩ := onw_of h
          refine wd_get (v := .ref (ad (4 + 3 * j22))) hC i6 hW 46 wC_c46 rfl 0 (Nat.le_of_ble_eq_true rfl) f9 rfl (congrArg some (by rw [ej23]; rfl)) dX6_valueOfTry_83 ?_
          refine wd_get hC i3 hW (4 + 3 * j22) (wC_L hj24) rfl 3 (Nat.le_of_ble_eq_true rfl) f74 rfl rfl dX6_valueOfTry_86 ?_
          refine lv_iload_n hx hb dX6_valueOfTry_89 rfl (lv_at hl 2 rfl) ?_
          refine lv_iconst (v := 3) hx hb dX6_valueOfTry_90 (by decide) ?_
          refine lv_imul hx hb dX6_valueOfTry_91 ?_
          refine lv_iconst (v := 2) hx hb dX6_valueOfTry_92 (by decide) ?_
          refine lv_iadd hx hb dX6_valueOfTry_93 ?_
          obtain ⟨hi25, h⟩ := ck_of h
          refine wd_iald hC hW (6 + 3 * j22) (wC_Lp hj24) hi25 dX6_valueOfTry_94 ?_
          refine lv_iadd hx hb dX6_valueOfTry_95 ?_
          refine lv_iload hx hb dX6_valueOfTry_96 (lv_at hl 5 rfl) ?_
          refine lv_iload hx hb dX6_valueOfTry_98 (lv_at hl 6 rfl) ?_
          refine lv_iconst (v := 1) hx hb dX6_valueOfTry_100 (by decide) ?_
          refine lv_iadd hx hb dX6_valueOfTry_101 ?_
          refine lv_iload hx hb dX6_valueOfTry_102 (lv_at hl 7 rfl) ?_
          refine lv_iconst (v := 1) hx hb dX6_valueOfTry_104 (by decide) ?_
          refine lv_isub hx hb dX6_valueOfTry_105 ?_
          obtain ⟨r26, hr27, h⟩ := bd_of h
          refine wd_callV1 (As := [.int p0, .int p1, .int (p2 + (r20.2.2.1 (6 + 3 * j22) ((p0 * 3) + 2).toNatClampNeg)), .int p3, .int (p4 + 1), .int (p5 - 1)]) hC hW 46 wC_c46 rfl (ih r20.2 p0 p1 (p2 + (r20.2.2.1 (6 + 3 * j22) ((p0 * 3) + 2).toNatClampNeg)) p3 (p4 + 1) (p5 - 1) r26 hr27) (cwV 6 hts (gu_V w_27_19 w_27_16 w_27_17 w_27_18 w_2_12) rfl rfl rfl hdX6_valueOfTry ⟨(show (2 * g) + 1 ≤ 2 * (g + 1) by omega), (show 8 + (9 + 11) + 40 * (2 * g) ≤ 40 * (2 * (g + 1)) by omega)⟩) rfl hl.1 rfl (Nat.le_of_ble_eq_true rfl) ⟨Nat.zero_le _, Nat.zero_le _⟩ dX6_valueOfTry_106 (fun H locs hW => ?_)
          refine lv_istore (lv' := [(8, .int r26.1), (7, .int r20.1), (0, .ref (ad 46)), (1, .int p0), (2, .int p1), (3, .int p2), (4, .int p3), (5, .int p4), (6, .int p5)]) hx hb dX6_valueOfTry_109 hl (by decide) rfl (fun ls hl => ?_)
          refine lv_aload_n hx hb dX6_valueOfTry_111 rfl (lv_at hl 2 rfl) ?_
          obtain ⟨j28, ej29, hj30, h⟩ := onw_of h
          refine wd_get (v := .ref (ad (4 + 3 * j28))) hC i6 hW 46 wC_c46 rfl 0 (Nat.le_of_ble_eq_true rfl) f9 rfl (congrArg some (by rw [ej29]; rfl)) dX6_valueOfTry_112 ?_
          refine lv_iload_n hx hb dX6_valueOfTry_115 rfl (lv_at hl 3 rfl) ?_
          refine lv_iload_n hx hb dX6_valueOfTry_116 rfl (lv_at hl 5 rfl) ?_
          refine lv_iload hx hb dX6_valueOfTry_117 (lv_at hl 7 rfl) ?_
          refine lv_aload_n hx hb dX6_valueOfTry_119 rfl (lv_at hl 2 rfl) ?_
          refine wd_get hC i6 hW 46 wC_c46 rfl 1 (Nat.le_of_ble_eq_true rfl) f15 rfl rfl dX6_valueOfTry_120 ?_
          refine lv_imul hx hb dX6_valueOfTry_123 ?_
          obtain ⟨r31, hr32, h⟩ := bd_of h
          refine wd_callV1 (As := [.int p0, .int p2, .int (p4 * (r26.2.1 61))]) hC hW (4 + 3 * j28) (wC_L hj30) rfl (c_X3_oddsOf l D cy ad X r26.2 j28 p0 p2 (p4 * (r26.2.1 61)) r31 hr32 hj30) (cwV 3 hts (gu_V w_15_11 w_27_21 w_15_9 w_15_10 w_1_20) rfl rfl rfl hdX3_oddsOf ⟨(show (1) + 1 ≤ 2 * (g + 1) by omega), (show 8 + (4 + 11) + 40 * (1) ≤ 40 * (2 * (g + 1)) by omega)⟩) rfl hl.1 rfl (Nat.le_of_ble_eq_true rfl) ⟨Nat.zero_le _, Nat.zero_le _⟩ dX6_valueOfTry_124 (fun H locs hW => ?_)
          refine lv_iload hx hb dX6_valueOfTry_127 (lv_at hl 1 rfl) ?_
          refine lv_iload hx hb dX6_valueOfTry_129 (lv_at hl 0 rfl) ?_
          obtain ⟨r33, hr34, h⟩ := bd_of h
          refine wd_callSN1 (As := [.int r31, .int r20.1, .int r26.1]) hC hW (c_X8_mix l D cy ad X r26.2 r31 r20.1 r26.1 r33 hr34) ⟨va_cnB 3 hts (gu_N w_27_23) rfl rfl rfl (hW.2.2.2.2.2.at 5 rfl) ci8 hdX8_mix ⟨(show (0) + 1 ≤ 2 * (g + 1) by omega), (show 8 + (3 + 11) + 40 * (0) ≤ 40 * (2 * (g + 1)) by omega)⟩, csmix, trivial⟩ rfl hl.1 rfl (Nat.le_of_ble_eq_true rfl) ⟨Nat.zero_le _, Nat.zero_le _⟩ dX6_valueOfTry_131 (fun H locs hW => ?_)
          obtain rfl := Option.some.inj h
          exact wd_iret hA hQ hC hr hk hW dX6_valueOfTry_134
        · replace h := ite_f h c15
          refine lv_iload hx hb dX6_valueOfTry_16 (lv_at hl 4 rfl) ?_
          refine lv_if_ne (tgt := 31) hx hb dX6_valueOfTry_18 (by decide) (fun c35 => ?_) (fun c35 => ?_)
          · replace h := ite_f h c35
            refine lv_aload_n hx hb dX6_valueOfTry_31 rfl (lv_at hl 0 rfl) ?_
            refine lv_iload_n hx hb dX6_valueOfTry_32 rfl (lv_at hl 1 rfl) ?_
            refine lv_iconst (v := 1) hx hb dX6_valueOfTry_33 (by decide) ?_
            refine lv_iadd hx hb dX6_valueOfTry_34 ?_
            refine lv_iload_n hx hb dX6_valueOfTry_35 rfl (lv_at hl 2 rfl) ?_
            refine lv_iload hx hb dX6_valueOfTry_36 (lv_at hl 4 rfl) ?_
            refine lv_iadd hx hb dX6_valueOfTry_38 ?_
            obtain ⟨r36, hr37, h⟩ := bd_of h
            refine wd_callV1 (As := [.int (p0 + 1), .int (p1 + p3)]) hC hW 46 wC_c46 rfl (c_X6_startOf l D cy ad X (m_X6_valueOfTry g) (2 * g) ih S (p0 + 1) (p1 + p3) r36 hr37) (cwV 2 hts (gu_V w_27_13 w_27_10 w_27_11 w_27_12 w_2_12) rfl rfl rfl hdX6_startOf ⟨(show (2 * g + 1) + 1 ≤ 2 * (g + 1) by omega), (show 8 + (3 + 11) + 40 * (2 * g + 1) ≤ 40 * (2 * (g + 1)) by omega)⟩) rfl hl.1 rfl (Nat.le_of_ble_eq_true rfl) ⟨Nat.zero_le _, Nat.zero_le _⟩ dX6_valueOfTry_39 (fun H locs hW => ?_)
            obtain rfl := Option.some.inj h
            exact wd_iret hA hQ hC hr hk hW dX6_valueOfTry_42
          · replace h := ite_t h c35
            refine lv_aload_n hx hb dX6_valueOfTry_21 rfl (lv_at hl 0 rfl) ?_
            obtain ⟨j38, ej39, hj40, h⟩ := onw_of h
            refine wd_get (v := .ref (ad 44)) hC i6 hW 46 wC_c46 rfl 2 (Nat.le_of_ble_eq_true rfl) f19 rfl (congrArg some (by rw [ej39]; rfl)) dX6_valueOfTry_22 ?_
            refine wd_get hC i0 hW 44 wC_c44 rfl 1 (Nat.le_of_ble_eq_true rfl) f40 rfl rfl dX6_valueOfTry_25 ?_
            refine lv_goto (tgt := 42) hx hb dX6_valueOfTry_28 (by decide) ?_
            obtain rfl := Option.some.inj h
            exact wd_iret hA hQ hC hr hk hW dX6_valueOfTry_42
def m_X6_valueFrom (S : St) : Option (Int32 × St) :=
  onw (S.2.2.2 0) 7 (fun j1 => onw (S.2.2.2 1) 1 (fun j4 => if (S.1 50) = 0 then (if (S.1 51) < 3 then ((m_X6_valueOfTry 20 S (S.1 51) (S.1 52) (S.1 55) (S.1 53) (S.1 54) (S.1 57)).bind (fun r9 => some (r9.1, r9.2))) else ((m_X6_startOf (m_X6_valueOfTry 20) S (S.1 51) (S.1 52)).bind (fun r11 => some (r11.1, r11.2)))) else (onw (S.2.2.2 1) 1 (fun j13 => some (S.1 60, S)))))
set_option maxHeartbeats 4000000 in
set_option maxRecDepth 100000 in
theorem c_X6_valueFrom (l : Launch) (D : va_G) (cy : Nat → ClassId) (ad : Nat → Nat) (X : va_W) (S : St) (r : (Int32 × St)) (h : m_X6_valueFrom S = some r) : CT l yX6_valueFrom (wu yX6_valueFrom cX6_valueFrom 2 (some .int)) 42 D cy [.ref (ad 46), .ref (ad 43)] (wC ad cy S ++ X) (some (.int r.1)) (wC ad cy r.2 ++ X) := by
  refine CT.mk (cc := cX6_valueFrom) (maxL := 2) (ret := (some .int)) (own := RX6) (by decide) rfl rfl (Nat.le_of_ble_eq_true rfl) ?_
  intro p e s m args below meth c ls A Q hA hQ hC hr hk hW hl
  have hx := hC.1
  have hb := hC.2.1
  have hown := hC.2.2.2.1
  have hts := hC.2.2.2.2
  have hl : lv_has ls 2 [(0, .ref (ad 46)), (1, .ref (ad 43))] := hl
  have f9 := hts _ (wu_in w_4_18)
  have i6 := (fun w h => wu_in (inc_6 w h) : ∀ w ∈ u_ws RX6 TX6 4, w ∈ (wu yX6_valueFrom cX6_valueFrom 2 (some .int)))
  have f19 := hts _ (wu_in w_4_20)
  have f34 := hts _ (wu_in w_27_2)
  have i5 := (fun w h => wu_in (inc_5 w h) : ∀ w ∈ u_ws RX5 TX5 8, w ∈ (wu yX6_valueFrom cX6_valueFrom 2 (some .int)))
  have f44 := hts _ (wu_in w_27_4)
  have f47 := hts _ (wu_in w_27_5)
  have f54 := hts _ (wu_in w_27_6)
  have f57 := hts _ (wu_in w_27_7)
  have f60 := hts _ (wu_in w_27_8)
  have f63 := hts _ (wu_in w_27_9)
  have f40 := hts _ (wu_in w_27_3)
  have i0 := (fun w h => wu_in (inc_0 w h) : ∀ w ∈ u_ws RX0 TX0 2, w ∈ (wu yX6_valueFrom cX6_valueFrom 2 (some .int)))
  unfold m_X6_valueFrom at h
  refine lv_aload_n hx hb dX6_valueFrom_0 rfl (lv_at hl 0 rfl) ?_
  obtain ⟨j1, ej2, hj3, h⟩ := onw_of h
  refine wd_get (v := .ref (ad (4 + 3 * j1))) hC i6 hW 46 wC_c46 rfl 0 (Nat.le_of_ble_eq_true rfl) f9 rfl (congrArg some (by rw [ej2]; rfl)) dX6_valueFrom_1 ?_
  refine lv_ifnull hx hb dX6_valueFrom_4 ?_
  refine lv_aload_n hx hb dX6_valueFrom_7 rfl (lv_at hl 0 rfl) ?_
  obtain ⟨j4, ej5, hj6, h⟩ := onw_of h
  refine wd_get (v := .ref (ad 44)) hC i6 hW 46 wC_c46 rfl 2 (Nat.le_of_ble_eq_true rfl) f19 rfl (congrArg some (by rw [ej5]; rfl)) dX6_valueFrom_8 ?_
  refine lv_ifnonnull (tgt := 16) hx hb dX6_valueFrom_11 (by decide) ?_
  refine lv_aload_n hx hb dX6_valueFrom_16 rfl (lv_at hl 1 rfl) ?_
  refine wd_get hC i5 hW 43 wC_c43 rfl 0 (Nat.le_of_ble_eq_true rfl) f34 rfl rfl dX6_valueFrom_17 ?_
  refine lv_if_eq (tgt := 31) hx hb dX6_valueFrom_20 (by decide) (fun c7 => ?_) (fun c7 => ?_)
  · replace h := ite_t h c7
    refine lv_aload_n hx hb dX6_valueFrom_31 rfl (lv_at hl 1 rfl) ?_
    refine wd_get hC i5 hW 43 wC_c43 rfl 1 (Nat.le_of_ble_eq_true rfl) f44 rfl rfl dX6_valueFrom_32 ?_
    refine lv_iconst (v := 3) hx hb dX6_valueFrom_35 (by decide) ?_
    refine lv_icmp_lt (tgt := 52) hx hb dX6_valueFrom_36 (by decide) (fun c8 => ?_) (fun c8 => ?_)
    · replace h := ite_t h c8
      refine lv_aload_n hx hb dX6_valueFrom_52 rfl (lv_at hl 0 rfl) ?_
      refine lv_aload_n hx hb dX6_valueFrom_53 rfl (lv_at hl 1 rfl) ?_
      refine wd_get hC i5 hW 43 wC_c43 rfl 1 (Nat.le_of_ble_eq_true rfl) f44 rfl rfl dX6_valueFrom_54 ?_
      refine lv_aload_n hx hb dX6_valueFrom_57 rfl (lv_at hl 1 rfl) ?_
      refine wd_get hC i5 hW 43 wC_c43 rfl 2 (Nat.le_of_ble_eq_true rfl) f47 rfl rfl dX6_valueFrom_58 ?_
      refine lv_aload_n hx hb dX6_valueFrom_61 rfl (lv_at hl 1 rfl) ?_
      refine wd_get hC i5 hW 43 wC_c43 rfl 5 (Nat.le_of_ble_eq_true rfl) f54 rfl rfl dX6_valueFrom_62 ?_
      refine lv_aload_n hx hb dX6_valueFrom_65 rfl (lv_at hl 1 rfl) ?_
      refine wd_get hC i5 hW 43 wC_c43 rfl 3 (Nat.le_of_ble_eq_true rfl) f57 rfl rfl dX6_valueFrom_66 ?_
      refine lv_aload_n hx hb dX6_valueFrom_69 rfl (lv_at hl 1 rfl) ?_
      refine wd_get hC i5 hW 43 wC_c43 rfl 4 (Nat.le_of_ble_eq_true rfl) f60 rfl rfl dX6_valueFrom_70 ?_
      refine lv_aload_n hx hb dX6_valueFrom_73 rfl (lv_at hl 1 rfl) ?_
      refine wd_get hC i5 hW 43 wC_c43 rfl 7 (Nat.le_of_ble_eq_true rfl) f63 rfl rfl dX6_valueFrom_74 ?_
      obtain ⟨r9, hr10, h⟩ := bd_of h
      refine wd_callV1 (As := [.int (S.1 51), .int (S.1 52), .int (S.1 55), .int (S.1 53), .int (S.1 54), .int (S.1 57)]) hC hW 46 wC_c46 rfl (c_X6_valueOfTry l D cy ad X 20 S (S.1 51) (S.1 52) (S.1 55) (S.1 53) (S.1 54) (S.1 57) r9 hr10) (cwV 6 hts (gu_V w_27_19 w_27_16 w_27_17 w_27_18 w_2_12) rfl rfl rfl hdX6_valueOfTry ⟨Nat.le_of_ble_eq_true rfl, Nat.le_of_ble_eq_true rfl⟩) rfl hl.1 rfl (Nat.le_of_ble_eq_true rfl) ⟨Nat.zero_le _, Nat.zero_le _⟩ dX6_valueFrom_77 (fun H locs hW => ?_)
      obtain rfl := Option.some.inj h
      exact wd_iret hA hQ hC hr hk hW dX6_valueFrom_80
    · replace h := ite_f h c8
      refine lv_aload_n hx hb dX6_valueFrom_39 rfl (lv_at hl 0 rfl) ?_
      refine lv_aload_n hx hb dX6_valueFrom_40 rfl (lv_at hl 1 rfl) ?_
      refine wd_get hC i5 hW 43 wC_c43 rfl 1 (Nat.le_of_ble_eq_true rfl) f44 rfl rfl dX6_valueFrom_41 ?_
      refine lv_aload_n hx hb dX6_valueFrom_44 rfl (lv_at hl 1 rfl) ?_
      refine wd_get hC i5 hW 43 wC_c43 rfl 2 (Nat.le_of_ble_eq_true rfl) f47 rfl rfl dX6_valueFrom_45 ?_
      obtain ⟨r11, hr12, h⟩ := bd_of h
      refine wd_callV1 (As := [.int (S.1 51), .int (S.1 52)]) hC hW 46 wC_c46 rfl (c_X6_startOf l D cy ad X (m_X6_valueOfTry 20) 40 (c_X6_valueOfTry l D cy ad X 20) S (S.1 51) (S.1 52) r11 hr12) (cwV 2 hts (gu_V w_27_13 w_27_10 w_27_11 w_27_12 w_2_12) rfl rfl rfl hdX6_startOf ⟨Nat.le_of_ble_eq_true rfl, Nat.le_of_ble_eq_true rfl⟩) rfl hl.1 rfl (Nat.le_of_ble_eq_true rfl) ⟨Nat.zero_le _, Nat.zero_le _⟩ dX6_valueFrom_48 (fun H locs hW => ?_)
      obtain rfl := Option.some.inj h
      exact wd_iret hA hQ hC hr hk hW dX6_valueFrom_51
  · replace h := ite_f h c7
    refine lv_aload_n hx hb dX6_valueFrom_23 rfl (lv_at hl 0 rfl) ?_
    obtain ⟨j13, ej14, hj15, h⟩ := onw_of h
    refine wd_get (v := .ref (ad 44)) hC i6 hW 46 wC_c46 rfl 2 (Nat.le_of_ble_eq_true rfl) f19 rfl (congrArg some (by rw [ej14]; rfl)) dX6_valueFrom_24 ?_
    refine wd_get hC i0 hW 44 wC_c44 rfl 1 (Nat.le_of_ble_eq_true rfl) f40 rfl rfl dX6_valueFrom_27 ?_
    obtain rfl := Option.some.inj h
    exact wd_iret hA hQ hC hr hk hW dX6_valueFrom_30
