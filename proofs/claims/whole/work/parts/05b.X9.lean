theorem hdX9_calledAhead : yX9_calledAhead.cls = RX9 ∧ yX9_calledAhead.cls ≠ "java/lang/invoke/MethodHandle" ∧ yX9_calledAhead.cls ≠ "java/lang/invoke/VarHandle" ∧ (parseMethodDescriptor yX9_calledAhead.desc).map (fun d => d.parameters.length) = some 1 := by decide +kernel
theorem hdX9_doesTry : yX9_doesTry.cls = RX9 ∧ yX9_doesTry.cls ≠ "java/lang/invoke/MethodHandle" ∧ yX9_doesTry.cls ≠ "java/lang/invoke/VarHandle" ∧ (parseMethodDescriptor yX9_doesTry.desc).map (fun d => d.parameters.length) = some 2 := by decide +kernel
theorem hdX9_entersPlaces : yX9_entersPlaces.cls = RX9 ∧ yX9_entersPlaces.cls ≠ "java/lang/invoke/MethodHandle" ∧ yX9_entersPlaces.cls ≠ "java/lang/invoke/VarHandle" ∧ (parseMethodDescriptor yX9_entersPlaces.desc).map (fun d => d.parameters.length) = some 0 := by decide +kernel
theorem hdX9_isDigit : yX9_isDigit.cls = RX9 ∧ yX9_isDigit.cls ≠ "java/lang/invoke/MethodHandle" ∧ yX9_isDigit.cls ≠ "java/lang/invoke/VarHandle" ∧ (parseMethodDescriptor yX9_isDigit.desc).map (fun d => d.parameters.length) = some 0 := by decide +kernel
theorem hdX9_isLift : yX9_isLift.cls ≠ "java/lang/invoke/MethodHandle" ∧ yX9_isLift.cls ≠ "java/lang/invoke/VarHandle" ∧ (parseMethodDescriptor yX9_isLift.desc).map (fun d => d.parameters.length) = some 1 := by decide +kernel
theorem hdX9_isLifter : yX9_isLifter.cls = RX9 ∧ yX9_isLifter.cls ≠ "java/lang/invoke/MethodHandle" ∧ yX9_isLifter.cls ≠ "java/lang/invoke/VarHandle" ∧ (parseMethodDescriptor yX9_isLifter.desc).map (fun d => d.parameters.length) = some 1 := by decide +kernel
theorem hdX9_leastOf : yX9_leastOf.cls = RX9 ∧ yX9_leastOf.cls ≠ "java/lang/invoke/MethodHandle" ∧ yX9_leastOf.cls ≠ "java/lang/invoke/VarHandle" ∧ (parseMethodDescriptor yX9_leastOf.desc).map (fun d => d.parameters.length) = some 1 := by decide +kernel
theorem hdX9_meetBegins : yX9_meetBegins.cls = RX9 ∧ yX9_meetBegins.cls ≠ "java/lang/invoke/MethodHandle" ∧ yX9_meetBegins.cls ≠ "java/lang/invoke/VarHandle" ∧ (parseMethodDescriptor yX9_meetBegins.desc).map (fun d => d.parameters.length) = some 0 := by decide +kernel
theorem hdX9_oddsOf : yX9_oddsOf.cls = RX9 ∧ yX9_oddsOf.cls ≠ "java/lang/invoke/MethodHandle" ∧ yX9_oddsOf.cls ≠ "java/lang/invoke/VarHandle" ∧ (parseMethodDescriptor yX9_oddsOf.desc).map (fun d => d.parameters.length) = some 4 := by decide +kernel
theorem hdX9_readsNumber : yX9_readsNumber.cls = RX9 ∧ yX9_readsNumber.cls ≠ "java/lang/invoke/MethodHandle" ∧ yX9_readsNumber.cls ≠ "java/lang/invoke/VarHandle" ∧ (parseMethodDescriptor yX9_readsNumber.desc).map (fun d => d.parameters.length) = some 2 := by decide +kernel
theorem hdX9_takes : yX9_takes.cls = RX9 ∧ yX9_takes.cls ≠ "java/lang/invoke/MethodHandle" ∧ yX9_takes.cls ≠ "java/lang/invoke/VarHandle" ∧ (parseMethodDescriptor yX9_takes.desc).map (fun d => d.parameters.length) = some 1 := by decide +kernel
theorem hdX9_takesLifter : yX9_takesLifter.cls = RX9 ∧ yX9_takesLifter.cls ≠ "java/lang/invoke/MethodHandle" ∧ yX9_takesLifter.cls ≠ "java/lang/invoke/VarHandle" ∧ (parseMethodDescriptor yX9_takesLifter.desc).map (fun d => d.parameters.length) = some 0 := by decide +kernel
theorem hdX9_takesLot : yX9_takesLot.cls = RX9 ∧ yX9_takesLot.cls ≠ "java/lang/invoke/MethodHandle" ∧ yX9_takesLot.cls ≠ "java/lang/invoke/VarHandle" ∧ (parseMethodDescriptor yX9_takesLot.desc).map (fun d => d.parameters.length) = some 0 := by decide +kernel
theorem hdX9_takesNumber : yX9_takesNumber.cls = RX9 ∧ yX9_takesNumber.cls ≠ "java/lang/invoke/MethodHandle" ∧ yX9_takesNumber.cls ≠ "java/lang/invoke/VarHandle" ∧ (parseMethodDescriptor yX9_takesNumber.desc).map (fun d => d.parameters.length) = some 2 := by decide +kernel
theorem hdX9_takesPlan : yX9_takesPlan.cls = RX9 ∧ yX9_takesPlan.cls ≠ "java/lang/invoke/MethodHandle" ∧ yX9_takesPlan.cls ≠ "java/lang/invoke/VarHandle" ∧ (parseMethodDescriptor yX9_takesPlan.desc).map (fun d => d.parameters.length) = some 1 := by decide +kernel
theorem hdX9_takesTable : yX9_takesTable.cls = RX9 ∧ yX9_takesTable.cls ≠ "java/lang/invoke/MethodHandle" ∧ yX9_takesTable.cls ≠ "java/lang/invoke/VarHandle" ∧ (parseMethodDescriptor yX9_takesTable.desc).map (fun d => d.parameters.length) = some 1 := by decide +kernel
def m_X9_sign_L19 : Nat → St → Int32 → Int32 → Option (St)
  | 0, _, _, _ => none
  | n + 1, T, x1, x2 =>
    if 4 ≤ x2 then (some T) else (ck ((T.1 18) + x2) 240 (nm (sA T 17 ((T.1 18) + x2).toNatClampNeg ((x1 >>> ((24 - (8 * x2)) &&& 31)) &&& 255)) (fun T8 => m_X9_sign_L19 n T8 x1 (x2 + 1))))
theorem m_X9_sign_L19_0 (T : St) (x1 : Int32) (x2 : Int32) : m_X9_sign_L19 0 T x1 x2 = none := rfl
theorem m_X9_sign_L19_s {n : Nat} {T : St} {x1 : Int32} {x2 : Int32} : m_X9_sign_L19 (n + 1) T x1 x2 =
    (if 4 ≤ x2 then (some T) else (ck ((T.1 18) + x2) 240 (nm (sA T 17 ((T.1 18) + x2).toNatClampNeg ((x1 >>> ((24 - (8 * x2)) &&& 31)) &&& 255)) (fun T8 => m_X9_sign_L19 n T8 x1 (x2 + 1))))) := rfl
def m_X9_sign (n : Nat) (T : St) (p0 : Int32) : Option (Int32 × St) :=
  nm (sI T 0 0) (fun T1 => if (T1.1 18) ≤ 236 then ((m_X9_sign_L19 n T1 p0 0).bind (fun q4 => nm (sI q4 18 ((q4.1 18) + 4)) (fun T10 => some (T10.1 18, T10)))) else (some ((-1), T1)))
set_option maxHeartbeats 4000000 in
set_option maxRecDepth 100000 in
theorem c_X9_sign (l : Launch) (D : va_G) (cy : Nat → ClassId) (ad : Nat → Nat) (X : va_W) (n : Nat) (T : St) (p0 : Int32) (r : (Int32 × St)) (h : m_X9_sign n T p0 = some r) : CT l yX9_sign (wu yX9_sign cX9_sign 3 (some .int)) 0 D cy [.ref (ad 0), .int p0] (wR ad cy T ++ X) (some (.int r.1)) (wR ad cy r.2 ++ X) := by
  refine CT.mk (cc := cX9_sign) (maxL := 3) (ret := (some .int)) (own := RX9) (by decide) rfl rfl (Nat.le_of_ble_eq_true rfl) ?_
  intro p e s m args below meth c ls A Q hA hQ hC hr hk hW hl
  have hx := hC.1
  have hb := hC.2.1
  have hown := hC.2.2.2.1
  have hts := hC.2.2.2.2
  have hl : lv_has ls 3 [(0, .ref (ad 0)), (1, .int p0)] := hl
  have f77 := hts _ (wu_in w_6_14)
  have i9 := (fun w h => wu_in (inc_9 w h) : ∀ w ∈ u_ws RX9 TX9 40, w ∈ (wu yX9_sign cX9_sign 3 (some .int)))
  have f184 := hts _ (wu_in w_6_15)
  have f41 := hts _ (wu_in w_5_13)
  unfold m_X9_sign at h
  refine lv_aload_n hx hb dX9_sign_0 rfl (lv_at hl 0 rfl) ?_
  refine lv_iconst (v := 0) hx hb dX9_sign_1 (by decide) ?_
  refine wd_put hC i9 tyX9_ok nmX9 hW 0 wR_c0 rfl 0 (Nat.le_of_ble_eq_true rfl) f77 rfl rfl rfl rfl (Nat.le_of_ble_eq_true rfl) wR_s0_0 dX9_sign_2 (fun H locs hW => ?_)
  obtain ⟨T1, e2, h⟩ := nm_of h
  replace hW := wq_T e2 hW
  refine lv_aload_n hx hb dX9_sign_5 rfl (lv_at hl 0 rfl) ?_
  refine wd_get hC i9 hW 0 wR_c0 rfl 18 (Nat.le_of_ble_eq_true rfl) f184 rfl rfl dX9_sign_6 ?_
  refine lv_sipush (v := 236) hx hb dX9_sign_9 (by decide) ?_
  refine lv_icmp_le (tgt := 17) hx hb dX9_sign_12 (by decide) (fun c3 => ?_) (fun c3 => ?_)
  · replace h := ite_t h c3
    refine lv_iconst (v := 0) hx hb dX9_sign_17 (by decide) ?_
    refine lv_istore_n (lv' := [(2, .int 0), (0, .ref (ad 0)), (1, .int p0)]) hx hb dX9_sign_18 rfl hl (by decide) rfl (fun ls hl => ?_)
    have hL19 : ∀ (n : Nat) (T : St) (x1 : Int32) (x2 : Int32)  (H : Heap) (locs : List Loc) (ls : Array Slot) (r : (St)), m_X9_sign_L19 n T x1 x2 = some r → Wd D cy A s (wR ad cy T ++ X) H locs → lv_has ls 3 [(0, .ref (ad 0)), (1, .int x1), (2, .int x2)] → (∀ (H : Heap) (locs : List Loc) (ls : Array Slot), Wd D cy A s (wR ad cy r ++ X) H locs → lv_has ls 3 [(0, .ref (ad 0)), (1, .int x1)] → W p l e (RM 0) s m args below meth c H locs 0 0 Q (F0 m 54 ls [])) → W p l e (RM 0) s m args below meth c H locs 0 0 Q (F0 m 19 ls []) := by
      intro n
      induction n with
      | zero =>
        intro T x1 x2  H locs ls r h
        exact absurd (h.symm.trans (m_X9_sign_L19_0 ..)) (by simp)
      | succ n ih =>
        intro T x1 x2  H locs ls r h hW hl kk
        rw [m_X9_sign_L19_s] at h
        refine lv_iload_n hx hb dX9_sign_19 rfl (lv_at hl 2 rfl) ?_
        refine lv_iconst (v := 4) hx hb dX9_sign_20 (by decide) ?_
        refine lv_icmp_ge (tgt := 54) hx hb dX9_sign_21 (by decide) (fun c6 => ?_) (fun c6 => ?_)
        · replace h := ite_t h c6
          obtain rfl := Option.some.inj h
          exact kk _ _ _ hW (lv_sub hl [0, 1] rfl)
        · replace h := ite_f h c6
          refine lv_aload_n hx hb dX9_sign_24 rfl (lv_at hl 0 rfl) ?_
          refine wd_get hC i9 hW 0 wR_c0 rfl 17 (Nat.le_of_ble_eq_true rfl) f41 rfl rfl dX9_sign_25 ?_
          refine lv_aload_n hx hb dX9_sign_28 rfl (lv_at hl 0 rfl) ?_
          refine wd_get hC i9 hW 0 wR_c0 rfl 18 (Nat.le_of_ble_eq_true rfl) f184 rfl rfl dX9_sign_29 ?_
          refine lv_iload_n hx hb dX9_sign_32 rfl (lv_at hl 2 rfl) ?_
          refine lv_iadd hx hb dX9_sign_33 ?_
          refine lv_iload_n hx hb dX9_sign_34 rfl (lv_at hl 1 rfl) ?_
          refine lv_bipush (v := 24) hx hb dX9_sign_35 (by decide) ?_
          refine lv_bipush (v := 8) hx hb dX9_sign_37 (by decide) ?_
          refine lv_iload_n hx hb dX9_sign_39 rfl (lv_at hl 2 rfl) ?_
          refine lv_imul hx hb dX9_sign_40 ?_
          refine lv_isub hx hb dX9_sign_41 ?_
          refine lv_ishr hx hb dX9_sign_42 ?_
          refine lv_sipush (v := 255) hx hb dX9_sign_43 (by decide) ?_
          refine lv_iand hx hb dX9_sign_46 ?_
          obtain ⟨hi7, h⟩ := ck_of h
          refine wd_iast hC hW 11 wR_c11 hi7 wR_t11 dX9_sign_47 (fun H locs hW => ?_)
          obtain ⟨T8, e9, h⟩ := nm_of h
          replace hW := wq_T e9 hW
          refine lv_iinc (v := x2 + 1) (lv' := [(2, .int (x2 + 1)), (0, .ref (ad 0)), (1, .int x1)]) hx hb dX9_sign_48 hl (k := 2) rfl rfl (by decide) rfl (fun ls hl => ?_)
          refine lv_goto (tgt := 19) hx hb dX9_sign_51 (by decide) ?_
          exact ih T8 x1 (x2 + 1) _ _ _ r h hW (lv_sub hl [1, 2, 0] rfl) kk
    obtain ⟨q4, hq5, h⟩ := bd_of h
    refine hL19 n T1 p0 0  _ _ _ q4 hq5 hW (lv_sub hl [1, 2, 0] rfl) (fun H locs ls hW hl => ?_)
    refine lv_aload_n hx hb dX9_sign_54 rfl (lv_at hl 0 rfl) ?_
    refine lv_dup hx hb dX9_sign_55 rfl ?_
    refine wd_get hC i9 hW 0 wR_c0 rfl 18 (Nat.le_of_ble_eq_true rfl) f184 rfl rfl dX9_sign_56 ?_
    refine lv_iconst (v := 4) hx hb dX9_sign_59 (by decide) ?_
    refine lv_iadd hx hb dX9_sign_60 ?_
    refine wd_put hC i9 tyX9_ok nmX9 hW 0 wR_c0 rfl 18 (Nat.le_of_ble_eq_true rfl) f184 rfl rfl rfl rfl (Nat.le_of_ble_eq_true rfl) wR_s0_18 dX9_sign_61 (fun H locs hW => ?_)
    obtain ⟨T10, e11, h⟩ := nm_of h
    replace hW := wq_T e11 hW
    refine lv_aload_n hx hb dX9_sign_64 rfl (lv_at hl 0 rfl) ?_
    refine wd_get hC i9 hW 0 wR_c0 rfl 18 (Nat.le_of_ble_eq_true rfl) f184 rfl rfl dX9_sign_65 ?_
    obtain rfl := Option.some.inj h
    exact wd_iret hA hQ hC hr hk hW dX9_sign_68
  · replace h := ite_f h c3
    refine lv_iconst (v := (-1)) hx hb dX9_sign_15 (by decide) ?_
    obtain rfl := Option.some.inj h
    exact wd_iret hA hQ hC hr hk hW dX9_sign_16
def m_X9_end (T : St) (p0 : Int32) : Option (Int32 × St) :=
  nm (sI T 0 0) (fun T1 => (m_X9_in T1 p0.toInt64 0 ((T1.1 18).toInt64)).bind (fun r3 => if r3 = 0 then (some (0, T1)) else (nm (sI T1 18 p0) (fun T6 => some (1, T6)))))
set_option maxHeartbeats 4000000 in
set_option maxRecDepth 100000 in
theorem c_X9_end (l : Launch) (D : va_G) (cy : Nat → ClassId) (ad : Nat → Nat) (X : va_W) (T : St) (p0 : Int32) (r : (Int32 × St)) (h : m_X9_end T p0 = some r) : CT l yX9_end (wu yX9_end cX9_end 2 (some .boolean)) 1 D cy [.ref (ad 0), .int p0] (wR ad cy T ++ X) (some (.int r.1)) (wR ad cy r.2 ++ X) := by
  refine CT.mk (cc := cX9_end) (maxL := 2) (ret := (some .boolean)) (own := RX9) (by decide) rfl rfl (Nat.le_of_ble_eq_true rfl) ?_
  intro p e s m args below meth c ls A Q hA hQ hC hr hk hW hl
  have hx := hC.1
  have hb := hC.2.1
  have hown := hC.2.2.2.1
  have hts := hC.2.2.2.2
  have hl : lv_has ls 2 [(0, .ref (ad 0)), (1, .int p0)] := hl
  have f77 := hts _ (wu_in w_6_14)
  have i9 := (fun w h => wu_in (inc_9 w h) : ∀ w ∈ u_ws RX9 TX9 40, w ∈ (wu yX9_end cX9_end 2 (some .boolean)))
  have f184 := hts _ (wu_in w_6_15)
  unfold m_X9_end at h
  refine lv_aload_n hx hb dX9_end_0 rfl (lv_at hl 0 rfl) ?_
  refine lv_iconst (v := 0) hx hb dX9_end_1 (by decide) ?_
  refine wd_put hC i9 tyX9_ok nmX9 hW 0 wR_c0 rfl 0 (Nat.le_of_ble_eq_true rfl) f77 rfl rfl rfl rfl (Nat.le_of_ble_eq_true rfl) wR_s0_0 dX9_end_2 (fun H locs hW => ?_)
  obtain ⟨T1, e2, h⟩ := nm_of h
  replace hW := wq_T e2 hW
  refine lv_iload_n hx hb dX9_end_5 rfl (lv_at hl 1 rfl) ?_
  refine lv_i2l (v := p0.toInt64) hx hb dX9_end_6 rfl ?_
  refine lv_lconst (v := 0) hx hb dX9_end_7 (by decide) ?_
  refine lv_aload_n hx hb dX9_end_8 rfl (lv_at hl 0 rfl) ?_
  refine wd_get hC i9 hW 0 wR_c0 rfl 18 (Nat.le_of_ble_eq_true rfl) f184 rfl rfl dX9_end_9 ?_
  refine lv_i2l (v := (T1.1 18).toInt64) hx hb dX9_end_12 rfl ?_
  obtain ⟨r3, hr4, h⟩ := bd_of h
  refine wd_callS1 (As := [.long p0.toInt64, .long 0, .long ((T1.1 18).toInt64)]) hC hW (c_X9_in l D cy ad X T1 p0.toInt64 0 ((T1.1 18).toInt64) r3 hr4) (va_cwS 3 hts (gu_S w_7_6 w_7_4 w_7_5 w_1_5) rfl rfl rfl hdX9_in ⟨Nat.le_of_ble_eq_true rfl, Nat.le_of_ble_eq_true rfl⟩) rfl hl.1 rfl (Nat.le_of_ble_eq_true rfl) ⟨Nat.zero_le _, Nat.zero_le _⟩ dX9_end_13 (fun H locs hW => ?_)
  refine lv_if_ne (tgt := 21) hx hb dX9_end_16 (by decide) (fun c5 => ?_) (fun c5 => ?_)
  · replace h := ite_f h c5
    refine lv_aload_n hx hb dX9_end_21 rfl (lv_at hl 0 rfl) ?_
    refine lv_iload_n hx hb dX9_end_22 rfl (lv_at hl 1 rfl) ?_
    refine wd_put hC i9 tyX9_ok nmX9 hW 0 wR_c0 rfl 18 (Nat.le_of_ble_eq_true rfl) f184 rfl rfl rfl rfl (Nat.le_of_ble_eq_true rfl) wR_s0_18 dX9_end_23 (fun H locs hW => ?_)
    obtain ⟨T6, e7, h⟩ := nm_of h
    replace hW := wq_T e7 hW
    refine lv_iconst (v := 1) hx hb dX9_end_26 (by decide) ?_
    obtain rfl := Option.some.inj h
    exact wd_zret hA hQ hC hr hk hW rfl dX9_end_27
  · replace h := ite_t h c5
    refine lv_iconst (v := 0) hx hb dX9_end_19 (by decide) ?_
    obtain rfl := Option.some.inj h
    exact wd_zret hA hQ hC hr hk hW rfl dX9_end_20
def m_X9_takes (T : St) (p0 : Int32) : Option (Int32 × St) :=
  if (T.1 20) ≤ (T.1 19) then (some (0, T)) else (ck (T.1 19) 240 (if (T.2.1 17 (T.1 19).toNatClampNeg) = p0 then (nm (sI T 19 ((T.1 19) + 1)) (fun T4 => some (1, T4))) else (some (0, T))))
set_option maxHeartbeats 4000000 in
set_option maxRecDepth 100000 in
theorem c_X9_takes (l : Launch) (D : va_G) (cy : Nat → ClassId) (ad : Nat → Nat) (X : va_W) (T : St) (p0 : Int32) (r : (Int32 × St)) (h : m_X9_takes T p0 = some r) : CT l yX9_takes (wu yX9_takes cX9_takes 2 (some .boolean)) 0 D cy [.ref (ad 0), .int p0] (wR ad cy T ++ X) (some (.int r.1)) (wR ad cy r.2 ++ X) := by
  refine CT.mk (cc := cX9_takes) (maxL := 2) (ret := (some .boolean)) (own := RX9) (by decide) rfl rfl (Nat.le_of_ble_eq_true rfl) ?_
  intro p e s m args below meth c ls A Q hA hQ hC hr hk hW hl
  have hx := hC.1
  have hb := hC.2.1
  have hown := hC.2.2.2.1
  have hts := hC.2.2.2.2
  have hl : lv_has ls 2 [(0, .ref (ad 0)), (1, .int p0)] := hl
  have f187 := hts _ (wu_in w_9_12)
  have i9 := (fun w h => wu_in (inc_9 w h) : ∀ w ∈ u_ws RX9 TX9 40, w ∈ (wu yX9_takes cX9_takes 2 (some .boolean)))
  have f190 := hts _ (wu_in w_9_11)
  have f41 := hts _ (wu_in w_5_13)
  unfold m_X9_takes at h
  refine lv_aload_n hx hb dX9_takes_0 rfl (lv_at hl 0 rfl) ?_
  refine wd_get hC i9 hW 0 wR_c0 rfl 19 (Nat.le_of_ble_eq_true rfl) f187 rfl rfl dX9_takes_1 ?_
  refine lv_aload_n hx hb dX9_takes_4 rfl (lv_at hl 0 rfl) ?_
  refine wd_get hC i9 hW 0 wR_c0 rfl 20 (Nat.le_of_ble_eq_true rfl) f190 rfl rfl dX9_takes_5 ?_
  refine lv_icmp_ge (tgt := 24) hx hb dX9_takes_8 (by decide) (fun c1 => ?_) (fun c1 => ?_)
  · replace h := ite_t h c1
    refine lv_iconst (v := 0) hx hb dX9_takes_24 (by decide) ?_
    obtain rfl := Option.some.inj h
    exact wd_zret hA hQ hC hr hk hW rfl dX9_takes_25
  · replace h := ite_f h c1
    refine lv_aload_n hx hb dX9_takes_11 rfl (lv_at hl 0 rfl) ?_
    refine wd_get hC i9 hW 0 wR_c0 rfl 17 (Nat.le_of_ble_eq_true rfl) f41 rfl rfl dX9_takes_12 ?_
    refine lv_aload_n hx hb dX9_takes_15 rfl (lv_at hl 0 rfl) ?_
    refine wd_get hC i9 hW 0 wR_c0 rfl 19 (Nat.le_of_ble_eq_true rfl) f187 rfl rfl dX9_takes_16 ?_
    obtain ⟨hi2, h⟩ := ck_of h
    refine wd_iald hC hW 11 wR_c11 hi2 dX9_takes_19 ?_
    refine lv_iload_n hx hb dX9_takes_20 rfl (lv_at hl 1 rfl) ?_
    refine lv_icmp_eq (tgt := 26) hx hb dX9_takes_21 (by decide) (fun c3 => ?_) (fun c3 => ?_)
    · replace h := ite_t h c3
      refine lv_aload_n hx hb dX9_takes_26 rfl (lv_at hl 0 rfl) ?_
      refine lv_dup hx hb dX9_takes_27 rfl ?_
      refine wd_get hC i9 hW 0 wR_c0 rfl 19 (Nat.le_of_ble_eq_true rfl) f187 rfl rfl dX9_takes_28 ?_
      refine lv_iconst (v := 1) hx hb dX9_takes_31 (by decide) ?_
      refine lv_iadd hx hb dX9_takes_32 ?_
      refine wd_put hC i9 tyX9_ok nmX9 hW 0 wR_c0 rfl 19 (Nat.le_of_ble_eq_true rfl) f187 rfl rfl rfl rfl (Nat.le_of_ble_eq_true rfl) wR_s0_19 dX9_takes_33 (fun H locs hW => ?_)
      obtain ⟨T4, e5, h⟩ := nm_of h
      replace hW := wq_T e5 hW
      refine lv_iconst (v := 1) hx hb dX9_takes_36 (by decide) ?_
      obtain rfl := Option.some.inj h
      exact wd_zret hA hQ hC hr hk hW rfl dX9_takes_37
    · replace h := ite_f h c3
      refine lv_iconst (v := 0) hx hb dX9_takes_24 (by decide) ?_
      obtain rfl := Option.some.inj h
      exact wd_zret hA hQ hC hr hk hW rfl dX9_takes_25
def m_X9_isDigit (T : St) : Option (Int32) :=
  if (T.1 20) ≤ (T.1 19) then (some 0) else (ck (T.1 19) 240 ((m_X9_in T ((T.2.1 17 (T.1 19).toNatClampNeg).toInt64) 48 57).bind (fun r3 => if r3 = 0 then (some 0) else (some 1))))
set_option maxHeartbeats 4000000 in
set_option maxRecDepth 100000 in
theorem c_X9_isDigit (l : Launch) (D : va_G) (cy : Nat → ClassId) (ad : Nat → Nat) (X : va_W) (T : St) (r : (Int32)) (h : m_X9_isDigit T = some r) : CT l yX9_isDigit (wu yX9_isDigit cX9_isDigit 1 (some .boolean)) 1 D cy [.ref (ad 0)] (wR ad cy T ++ X) (some (.int r)) (wR ad cy T ++ X) := by
  refine CT.mk (cc := cX9_isDigit) (maxL := 1) (ret := (some .boolean)) (own := RX9) (by decide) rfl rfl (Nat.le_of_ble_eq_true rfl) ?_
  intro p e s m args below meth c ls A Q hA hQ hC hr hk hW hl
  have hx := hC.1
  have hb := hC.2.1
  have hown := hC.2.2.2.1
  have hts := hC.2.2.2.2
  have hl : lv_has ls 1 [(0, .ref (ad 0))] := hl
  have f187 := hts _ (wu_in w_9_12)
  have i9 := (fun w h => wu_in (inc_9 w h) : ∀ w ∈ u_ws RX9 TX9 40, w ∈ (wu yX9_isDigit cX9_isDigit 1 (some .boolean)))
  have f190 := hts _ (wu_in w_9_11)
  have f41 := hts _ (wu_in w_5_13)
  have k193 := hts _ (wu_in w_10_9)
  have k195 := hts _ (wu_in w_10_10)
  unfold m_X9_isDigit at h
  refine lv_aload_n hx hb dX9_isDigit_0 rfl (lv_at hl 0 rfl) ?_
  refine wd_get hC i9 hW 0 wR_c0 rfl 19 (Nat.le_of_ble_eq_true rfl) f187 rfl rfl dX9_isDigit_1 ?_
  refine lv_aload_n hx hb dX9_isDigit_4 rfl (lv_at hl 0 rfl) ?_
  refine wd_get hC i9 hW 0 wR_c0 rfl 20 (Nat.le_of_ble_eq_true rfl) f190 rfl rfl dX9_isDigit_5 ?_
  refine lv_icmp_ge (tgt := 37) hx hb dX9_isDigit_8 (by decide) (fun c1 => ?_) (fun c1 => ?_)
  · replace h := ite_t h c1
    refine lv_iconst (v := 0) hx hb dX9_isDigit_37 (by decide) ?_
    obtain rfl := Option.some.inj h
    exact wd_zret hA hQ hC hr hk hW rfl dX9_isDigit_38
  · replace h := ite_f h c1
    refine lv_aload_n hx hb dX9_isDigit_11 rfl (lv_at hl 0 rfl) ?_
    refine wd_get hC i9 hW 0 wR_c0 rfl 17 (Nat.le_of_ble_eq_true rfl) f41 rfl rfl dX9_isDigit_12 ?_
    refine lv_aload_n hx hb dX9_isDigit_15 rfl (lv_at hl 0 rfl) ?_
    refine wd_get hC i9 hW 0 wR_c0 rfl 19 (Nat.le_of_ble_eq_true rfl) f187 rfl rfl dX9_isDigit_16 ?_
    obtain ⟨hi2, h⟩ := ck_of h
    refine wd_iald hC hW 11 wR_c11 hi2 dX9_isDigit_19 ?_
    refine lv_i2l (v := (T.2.1 17 (T.1 19).toNatClampNeg).toInt64) hx hb dX9_isDigit_20 rfl ?_
    refine lv_ldc2 hx hb hown k193 dX9_isDigit_21 ?_
    refine lv_ldc2 hx hb hown k195 dX9_isDigit_24 ?_
    obtain ⟨r3, hr4, h⟩ := bd_of h
    refine wd_callS1 (As := [.long ((T.2.1 17 (T.1 19).toNatClampNeg).toInt64), .long 48, .long 57]) hC hW (c_X9_in l D cy ad X T ((T.2.1 17 (T.1 19).toNatClampNeg).toInt64) 48 57 r3 hr4) (va_cwS 3 hts (gu_S w_7_6 w_7_4 w_7_5 w_1_5) rfl rfl rfl hdX9_in ⟨Nat.le_of_ble_eq_true rfl, Nat.le_of_ble_eq_true rfl⟩) rfl hl.1 rfl (Nat.le_of_ble_eq_true rfl) ⟨Nat.zero_le _, Nat.zero_le _⟩ dX9_isDigit_27 (fun H locs hW => ?_)
    refine lv_if_eq (tgt := 37) hx hb dX9_isDigit_30 (by decide) (fun c5 => ?_) (fun c5 => ?_)
    · replace h := ite_t h c5
      refine lv_iconst (v := 0) hx hb dX9_isDigit_37 (by decide) ?_
      obtain rfl := Option.some.inj h
      exact wd_zret hA hQ hC hr hk hW rfl dX9_isDigit_38
    · replace h := ite_f h c5
      refine lv_iconst (v := 1) hx hb dX9_isDigit_33 (by decide) ?_
      refine lv_goto (tgt := 38) hx hb dX9_isDigit_34 (by decide) ?_
      obtain rfl := Option.some.inj h
      exact wd_zret hA hQ hC hr hk hW rfl dX9_isDigit_38
def m_X9_readsNumber_L16 : Nat → St → Int32 → Int32 → Int32 → Option (St)
  | 0, _, _, _, _ => none
  | n + 1, T, x1, x2, x3 =>
    (m_X9_isDigit T).bind (fun r8 => if r8 = 0 then (some T) else (if 4 ≤ x3 then (some T) else (if x3 = 0 then (ck (T.1 19) 240 (nm (sI T 21 (((10 * (T.1 21)) + (T.2.1 17 (T.1 19).toNatClampNeg)) - 48)) (fun T14 => nm (sI T14 19 ((T14.1 19) + 1)) (fun T16 => m_X9_readsNumber_L16 n T16 x1 x2 (x3 + 1))))) else (if (T.1 21) ≤ 0 then (some T) else (ck (T.1 19) 240 (nm (sI T 21 (((10 * (T.1 21)) + (T.2.1 17 (T.1 19).toNatClampNeg)) - 48)) (fun T20 => nm (sI T20 19 ((T20.1 19) + 1)) (fun T22 => m_X9_readsNumber_L16 n T22 x1 x2 (x3 + 1)))))))))
theorem m_X9_readsNumber_L16_0 (T : St) (x1 : Int32) (x2 : Int32) (x3 : Int32) : m_X9_readsNumber_L16 0 T x1 x2 x3 = none := rfl
theorem m_X9_readsNumber_L16_s {n : Nat} {T : St} {x1 : Int32} {x2 : Int32} {x3 : Int32} : m_X9_readsNumber_L16 (n + 1) T x1 x2 x3 =
    ((m_X9_isDigit T).bind (fun r8 => if r8 = 0 then (some T) else (if 4 ≤ x3 then (some T) else (if x3 = 0 then (ck (T.1 19) 240 (nm (sI T 21 (((10 * (T.1 21)) + (T.2.1 17 (T.1 19).toNatClampNeg)) - 48)) (fun T14 => nm (sI T14 19 ((T14.1 19) + 1)) (fun T16 => m_X9_readsNumber_L16 n T16 x1 x2 (x3 + 1))))) else (if (T.1 21) ≤ 0 then (some T) else (ck (T.1 19) 240 (nm (sI T 21 (((10 * (T.1 21)) + (T.2.1 17 (T.1 19).toNatClampNeg)) - 48)) (fun T20 => nm (sI T20 19 ((T20.1 19) + 1)) (fun T22 => m_X9_readsNumber_L16 n T22 x1 x2 (x3 + 1)))))))))) := rfl
def m_X9_readsNumber (n : Nat) (T : St) (p0 : Int32) (p1 : Int32) : Option (Int32 × St) :=
  (m_X9_isDigit T).bind (fun r1 => if r1 = 0 then (some (0, T)) else (nm (sI T 21 0) (fun T4 => (m_X9_readsNumber_L16 n T4 p0 p1 0).bind (fun q6 => (m_X9_in q6 ((q6.1 21).toInt64) p0.toInt64 p1.toInt64).bind (fun r24 => if r24 = 0 then (nm (sI q6 19 ((q6.1 19) - 1)) (fun T27 => some (0, T27))) else (some (1, q6)))))))
set_option maxHeartbeats 4000000 in
set_option maxRecDepth 100000 in
theorem c_X9_readsNumber (l : Launch) (D : va_G) (cy : Nat → ClassId) (ad : Nat → Nat) (X : va_W) (n : Nat) (T : St) (p0 : Int32) (p1 : Int32) (r : (Int32 × St)) (h : m_X9_readsNumber n T p0 p1 = some r) : CT l yX9_readsNumber (wu yX9_readsNumber cX9_readsNumber 4 (some .boolean)) 2 D cy [.ref (ad 0), .int p0, .int p1] (wR ad cy T ++ X) (some (.int r.1)) (wR ad cy r.2 ++ X) := by
  refine CT.mk (cc := cX9_readsNumber) (maxL := 4) (ret := (some .boolean)) (own := RX9) (by decide) rfl rfl (Nat.le_of_ble_eq_true rfl) ?_
  intro p e s m args below meth c ls A Q hA hQ hC hr hk hW hl
  have hx := hC.1
  have hb := hC.2.1
  have hown := hC.2.2.2.1
  have hts := hC.2.2.2.2
  have hl : lv_has ls 4 [(0, .ref (ad 0)), (1, .int p0), (2, .int p1)] := hl
  have f200 := hts _ (wu_in w_9_20)
  have i9 := (fun w h => wu_in (inc_9 w h) : ∀ w ∈ u_ws RX9 TX9 40, w ∈ (wu yX9_readsNumber cX9_readsNumber 4 (some .boolean)))
  have f41 := hts _ (wu_in w_5_13)
  have f187 := hts _ (wu_in w_9_12)
  unfold m_X9_readsNumber at h
  refine lv_aload_n hx hb dX9_readsNumber_0 rfl (lv_at hl 0 rfl) ?_
  obtain ⟨r1, hr2, h⟩ := bd_of h
  refine wd_callV1 (As := []) hC hW 0 wR_c0 rfl (c_X9_isDigit l D cy ad X T r1 hr2) (cwV 0 hts (gu_V w_10_8 w_10_5 w_10_6 w_10_7 w_1_5) rfl rfl rfl hdX9_isDigit ⟨Nat.le_of_ble_eq_true rfl, Nat.le_of_ble_eq_true rfl⟩) rfl hl.1 rfl (Nat.le_of_ble_eq_true rfl) ⟨Nat.zero_le _, Nat.zero_le _⟩ dX9_readsNumber_1 (fun H locs hW => ?_)
  refine lv_if_ne (tgt := 9) hx hb dX9_readsNumber_4 (by decide) (fun c3 => ?_) (fun c3 => ?_)
  · replace h := ite_f h c3
    refine lv_aload_n hx hb dX9_readsNumber_9 rfl (lv_at hl 0 rfl) ?_
    refine lv_iconst (v := 0) hx hb dX9_readsNumber_10 (by decide) ?_
    refine wd_put hC i9 tyX9_ok nmX9 hW 0 wR_c0 rfl 21 (Nat.le_of_ble_eq_true rfl) f200 rfl rfl rfl rfl (Nat.le_of_ble_eq_true rfl) wR_s0_21 dX9_readsNumber_11 (fun H locs hW => ?_)
    obtain ⟨T4, e5, h⟩ := nm_of h
    replace hW := wq_T e5 hW
    refine lv_iconst (v := 0) hx hb dX9_readsNumber_14 (by decide) ?_
    refine lv_istore_n (lv' := [(3, .int 0), (0, .ref (ad 0)), (1, .int p0), (2, .int p1)]) hx hb dX9_readsNumber_15 rfl hl (by decide) rfl (fun ls hl => ?_)
    have hL16 : ∀ (n : Nat) (T : St) (x1 : Int32) (x2 : Int32) (x3 : Int32)  (H : Heap) (locs : List Loc) (ls : Array Slot) (r : (St)), m_X9_readsNumber_L16 n T x1 x2 x3 = some r → Wd D cy A s (wR ad cy T ++ X) H locs → lv_has ls 4 [(0, .ref (ad 0)), (1, .int x1), (2, .int x2), (3, .int x3)] → (∀ (H : Heap) (locs : List Loc) (ls : Array Slot), Wd D cy A s (wR ad cy r ++ X) H locs → lv_has ls 4 [(0, .ref (ad 0)), (1, .int x1), (2, .int x2)] → W p l e (RM 2) s m args below meth c H locs 0 0 Q (F0 m 79 ls [])) → W p l e (RM 2) s m args below meth c H locs 0 0 Q (F0 m 16 ls []) := by
      intro n
      induction n with
      | zero =>
        intro T x1 x2 x3  H locs ls r h
        exact absurd (h.symm.trans (m_X9_readsNumber_L16_0 ..)) (by simp)
      | succ n ih =>
        intro T x1 x2 x3  H locs ls r h hW hl kk
        rw [m_X9_readsNumber_L16_s] at h
        refine lv_aload_n hx hb dX9_readsNumber_16 rfl (lv_at hl 0 rfl) ?_
        obtain ⟨r8, hr9, h⟩ := bd_of h
        refine wd_callV1 (As := []) hC hW 0 wR_c0 rfl (c_X9_isDigit l D cy ad X T r8 hr9) (cwV 0 hts (gu_V w_10_8 w_10_5 w_10_6 w_10_7 w_1_5) rfl rfl rfl hdX9_isDigit ⟨Nat.le_of_ble_eq_true rfl, Nat.le_of_ble_eq_true rfl⟩) rfl hl.1 rfl (Nat.le_of_ble_eq_true rfl) ⟨Nat.zero_le _, Nat.zero_le _⟩ dX9_readsNumber_17 (fun H locs hW => ?_)
        refine lv_if_eq (tgt := 79) hx hb dX9_readsNumber_20 (by decide) (fun c10 => ?_) (fun c10 => ?_)
        · replace h := ite_t h c10
          obtain rfl := Option.some.inj h
          exact kk _ _ _ hW (lv_sub hl [0, 1, 2] rfl)
        · replace h := ite_f h c10
          refine lv_iload_n hx hb dX9_readsNumber_23 rfl (lv_at hl 3 rfl) ?_
          refine lv_iconst (v := 4) hx hb dX9_readsNumber_24 (by decide) ?_
          refine lv_icmp_ge (tgt := 79) hx hb dX9_readsNumber_25 (by decide) (fun c11 => ?_) (fun c11 => ?_)
          · replace h := ite_t h c11
            obtain rfl := Option.some.inj h
            exact kk _ _ _ hW (lv_sub hl [0, 1, 2] rfl)
          · replace h := ite_f h c11
            refine lv_iload_n hx hb dX9_readsNumber_28 rfl (lv_at hl 3 rfl) ?_
            refine lv_if_eq (tgt := 39) hx hb dX9_readsNumber_29 (by decide) (fun c12 => ?_) (fun c12 => ?_)
            · replace h := ite_t h c12
              refine lv_aload_n hx hb dX9_readsNumber_39 rfl (lv_at hl 0 rfl) ?_
              refine lv_bipush (v := 10) hx hb dX9_readsNumber_40 (by decide) ?_
              refine lv_aload_n hx hb dX9_readsNumber_42 rfl (lv_at hl 0 rfl) ?_
              refine wd_get hC i9 hW 0 wR_c0 rfl 21 (Nat.le_of_ble_eq_true rfl) f200 rfl rfl dX9_readsNumber_43 ?_
              refine lv_imul hx hb dX9_readsNumber_46 ?_
              refine lv_aload_n hx hb dX9_readsNumber_47 rfl (lv_at hl 0 rfl) ?_
              refine wd_get hC i9 hW 0 wR_c0 rfl 17 (Nat.le_of_ble_eq_true rfl) f41 rfl rfl dX9_readsNumber_48 ?_
              refine lv_aload_n hx hb dX9_readsNumber_51 rfl (lv_at hl 0 rfl) ?_
              refine wd_get hC i9 hW 0 wR_c0 rfl 19 (Nat.le_of_ble_eq_true rfl) f187 rfl rfl dX9_readsNumber_52 ?_
              obtain ⟨hi13, h⟩ := ck_of h
              refine wd_iald hC hW 11 wR_c11 hi13 dX9_readsNumber_55 ?_
              refine lv_iadd hx hb dX9_readsNumber_56 ?_
              refine lv_bipush (v := 48) hx hb dX9_readsNumber_57 (by decide) ?_
              refine lv_isub hx hb dX9_readsNumber_59 ?_
              refine wd_put hC i9 tyX9_ok nmX9 hW 0 wR_c0 rfl 21 (Nat.le_of_ble_eq_true rfl) f200 rfl rfl rfl rfl (Nat.le_of_ble_eq_true rfl) wR_s0_21 dX9_readsNumber_60 (fun H locs hW => ?_)
              obtain ⟨T14, e15, h⟩ := nm_of h
              replace hW := wq_T e15 hW
              refine lv_aload_n hx hb dX9_readsNumber_63 rfl (lv_at hl 0 rfl) ?_
              refine lv_dup hx hb dX9_readsNumber_64 rfl ?_
              refine wd_get hC i9 hW 0 wR_c0 rfl 19 (Nat.le_of_ble_eq_true rfl) f187 rfl rfl dX9_readsNumber_65 ?_
              refine lv_iconst (v := 1) hx hb dX9_readsNumber_68 (by decide) ?_
              refine lv_iadd hx hb dX9_readsNumber_69 ?_
              refine wd_put hC i9 tyX9_ok nmX9 hW 0 wR_c0 rfl 19 (Nat.le_of_ble_eq_true rfl) f187 rfl rfl rfl rfl (Nat.le_of_ble_eq_true rfl) wR_s0_19 dX9_readsNumber_70 (fun H locs hW => ?_)
              obtain ⟨T16, e17, h⟩ := nm_of h
              replace hW := wq_T e17 hW
              refine lv_iinc (v := x3 + 1) (lv' := [(3, .int (x3 + 1)), (0, .ref (ad 0)), (1, .int x1), (2, .int x2)]) hx hb dX9_readsNumber_73 hl (k := 3) rfl rfl (by decide) rfl (fun ls hl => ?_)
              refine lv_goto (tgt := 16) hx hb dX9_readsNumber_76 (by decide) ?_
              exact ih T16 x1 x2 (x3 + 1) _ _ _ r h hW (lv_sub hl [1, 2, 3, 0] rfl) kk
            · replace h := ite_f h c12
              refine lv_aload_n hx hb dX9_readsNumber_32 rfl (lv_at hl 0 rfl) ?_
              refine wd_get hC i9 hW 0 wR_c0 rfl 21 (Nat.le_of_ble_eq_true rfl) f200 rfl rfl dX9_readsNumber_33 ?_
              refine lv_if_le (tgt := 79) hx hb dX9_readsNumber_36 (by decide) (fun c18 => ?_) (fun c18 => ?_)
              · replace h := ite_t h c18
                obtain rfl := Option.some.inj h
                exact kk _ _ _ hW (lv_sub hl [0, 1, 2] rfl)
              · replace h := ite_f h c18
                refine lv_aload_n hx hb dX9_readsNumber_39 rfl (lv_at hl 0 rfl) ?_
                refine lv_bipush (v := 10) hx hb dX9_readsNumber_40 (by decide) ?_
                refine lv_aload_n hx hb dX9_readsNumber_42 rfl (lv_at hl 0 rfl) ?_
                refine wd_get hC i9 hW 0 wR_c0 rfl 21 (Nat.le_of_ble_eq_true rfl) f200 rfl rfl dX9_readsNumber_43 ?_
                refine lv_imul hx hb dX9_readsNumber_46 ?_
                refine lv_aload_n hx hb dX9_readsNumber_47 rfl (lv_at hl 0 rfl) ?_
                refine wd_get hC i9 hW 0 wR_c0 rfl 17 (Nat.le_of_ble_eq_true rfl) f41 rfl rfl dX9_readsNumber_48 ?_
                refine lv_aload_n hx hb dX9_readsNumber_51 rfl (lv_at hl 0 rfl) ?_
                refine wd_get hC i9 hW 0 wR_c0 rfl 19 (Nat.le_of_ble_eq_true rfl) f187 rfl rfl dX9_readsNumber_52 ?_
                obtain ⟨hi19, h⟩ := ck_of h
                refine wd_iald hC hW 11 wR_c11 hi19 dX9_readsNumber_55 ?_
                refine lv_iadd hx hb dX9_readsNumber_56 ?_
                refine lv_bipush (v := 48) hx hb dX9_readsNumber_57 (by decide) ?_
                refine lv_isub hx hb dX9_readsNumber_59 ?_
                refine wd_put hC i9 tyX9_ok nmX9 hW 0 wR_c0 rfl 21 (Nat.le_of_ble_eq_true rfl) f200 rfl rfl rfl rfl (Nat.le_of_ble_eq_true rfl) wR_s0_21 dX9_readsNumber_60 (fun H locs hW => ?_)
                obtain ⟨T20, e21, h⟩ := nm_of h
                replace hW := wq_T e21 hW
                refine lv_aload_n hx hb dX9_readsNumber_63 rfl (lv_at hl 0 rfl) ?_
                refine lv_dup hx hb dX9_readsNumber_64 rfl ?_
                refine wd_get hC i9 hW 0 wR_c0 rfl 19 (Nat.le_of_ble_eq_true rfl) f187 rfl rfl dX9_readsNumber_65 ?_
                refine lv_iconst (v := 1) hx hb dX9_readsNumber_68 (by decide) ?_
                refine lv_iadd hx hb dX9_readsNumber_69 ?_
                refine wd_put hC i9 tyX9_ok nmX9 hW 0 wR_c0 rfl 19 (Nat.le_of_ble_eq_true rfl) f187 rfl rfl rfl rfl (Nat.le_of_ble_eq_true rfl) wR_s0_19 dX9_readsNumber_70 (fun H locs hW => ?_)
                obtain ⟨T22, e23, h⟩ := nm_of h
                replace hW := wq_T e23 hW
                refine lv_iinc (v := x3 + 1) (lv' := [(3, .int (x3 + 1)), (0, .ref (ad 0)), (1, .int x1), (2, .int x2)]) hx hb dX9_readsNumber_73 hl (k := 3) rfl rfl (by decide) rfl (fun ls hl => ?_)
                refine lv_goto (tgt := 16) hx hb dX9_readsNumber_76 (by decide) ?_
                exact ih T22 x1 x2 (x3 + 1) _ _ _ r h hW (lv_sub hl [1, 2, 3, 0] rfl) kk
    obtain ⟨q6, hq7, h⟩ := bd_of h
    refine hL16 n T4 p0 p1 0  _ _ _ q6 hq7 hW (lv_sub hl [1, 2, 3, 0] rfl) (fun H locs ls hW hl => ?_)
    refine lv_aload_n hx hb dX9_readsNumber_79 rfl (lv_at hl 0 rfl) ?_
    refine wd_get hC i9 hW 0 wR_c0 rfl 21 (Nat.le_of_ble_eq_true rfl) f200 rfl rfl dX9_readsNumber_80 ?_
    refine lv_i2l (v := (q6.1 21).toInt64) hx hb dX9_readsNumber_83 rfl ?_
    refine lv_iload_n hx hb dX9_readsNumber_84 rfl (lv_at hl 1 rfl) ?_
    refine lv_i2l (v := p0.toInt64) hx hb dX9_readsNumber_85 rfl ?_
    refine lv_iload_n hx hb dX9_readsNumber_86 rfl (lv_at hl 2 rfl) ?_
    refine lv_i2l (v := p1.toInt64) hx hb dX9_readsNumber_87 rfl ?_
    obtain ⟨r24, hr25, h⟩ := bd_of h
    refine wd_callS1 (As := [.long ((q6.1 21).toInt64), .long p0.toInt64, .long p1.toInt64]) hC hW (c_X9_in l D cy ad X q6 ((q6.1 21).toInt64) p0.toInt64 p1.toInt64 r24 hr25) (va_cwS 3 hts (gu_S w_7_6 w_7_4 w_7_5 w_1_5) rfl rfl rfl hdX9_in ⟨Nat.le_of_ble_eq_true rfl, Nat.le_of_ble_eq_true rfl⟩) rfl hl.1 rfl (Nat.le_of_ble_eq_true rfl) ⟨Nat.zero_le _, Nat.zero_le _⟩ dX9_readsNumber_88 (fun H locs hW => ?_)
    refine lv_if_ne (tgt := 106) hx hb dX9_readsNumber_91 (by decide) (fun c26 => ?_) (fun c26 => ?_)
    · replace h := ite_f h c26
      refine lv_iconst (v := 1) hx hb dX9_readsNumber_106 (by decide) ?_
      obtain rfl := Option.some.inj h
      exact wd_zret hA hQ hC hr hk hW rfl dX9_readsNumber_107
    · replace h := ite_t h c26
      refine lv_aload_n hx hb dX9_readsNumber_94 rfl (lv_at hl 0 rfl) ?_
      refine lv_dup hx hb dX9_readsNumber_95 rfl ?_
      refine wd_get hC i9 hW 0 wR_c0 rfl 19 (Nat.le_of_ble_eq_true rfl) f187 rfl rfl dX9_readsNumber_96 ?_
      refine lv_iconst (v := 1) hx hb dX9_readsNumber_99 (by decide) ?_
      refine lv_isub hx hb dX9_readsNumber_100 ?_
      refine wd_put hC i9 tyX9_ok nmX9 hW 0 wR_c0 rfl 19 (Nat.le_of_ble_eq_true rfl) f187 rfl rfl rfl rfl (Nat.le_of_ble_eq_true rfl) wR_s0_19 dX9_readsNumber_101 (fun H locs hW => ?_)
      obtain ⟨T27, e28, h⟩ := nm_of h
      replace hW := wq_T e28 hW
      refine lv_iconst (v := 0) hx hb dX9_readsNumber_104 (by decide) ?_
      obtain rfl := Option.some.inj h
      exact wd_zret hA hQ hC hr hk hW rfl dX9_readsNumber_105
  · replace h := ite_t h c3
    refine lv_iconst (v := 0) hx hb dX9_readsNumber_7 (by decide) ?_
    obtain rfl := Option.some.inj h
    exact wd_zret hA hQ hC hr hk hW rfl dX9_readsNumber_8
def m_X9_takesNumber (n : Nat) (T : St) (p0 : Int32) (p1 : Int32) : Option (Int32 × St) :=
  (m_X9_readsNumber n T p0 p1).bind (fun r1 => if r1.1 = 0 then (some (0, r1.2)) else ((m_X9_isDigit r1.2).bind (fun r4 => if r4 = 0 then (some (1, r1.2)) else (some (0, r1.2)))))
set_option maxHeartbeats 4000000 in
set_option maxRecDepth 100000 in
theorem c_X9_takesNumber (l : Launch) (D : va_G) (cy : Nat → ClassId) (ad : Nat → Nat) (X : va_W) (n : Nat) (T : St) (p0 : Int32) (p1 : Int32) (r : (Int32 × St)) (h : m_X9_takesNumber n T p0 p1 = some r) : CT l yX9_takesNumber (wu yX9_takesNumber cX9_takesNumber 3 (some .boolean)) 3 D cy [.ref (ad 0), .int p0, .int p1] (wR ad cy T ++ X) (some (.int r.1)) (wR ad cy r.2 ++ X) := by
  refine CT.mk (cc := cX9_takesNumber) (maxL := 3) (ret := (some .boolean)) (own := RX9) (by decide) rfl rfl (Nat.le_of_ble_eq_true rfl) ?_
  intro p e s m args below meth c ls A Q hA hQ hC hr hk hW hl
  have hx := hC.1
  have hb := hC.2.1
  have hown := hC.2.2.2.1
  have hts := hC.2.2.2.2
  have hl : lv_has ls 3 [(0, .ref (ad 0)), (1, .int p0), (2, .int p1)] := hl
  unfold m_X9_takesNumber at h
  refine lv_aload_n hx hb dX9_takesNumber_0 rfl (lv_at hl 0 rfl) ?_
  refine lv_iload_n hx hb dX9_takesNumber_1 rfl (lv_at hl 1 rfl) ?_
  refine lv_iload_n hx hb dX9_takesNumber_2 rfl (lv_at hl 2 rfl) ?_
  obtain ⟨r1, hr2, h⟩ := bd_of h
  refine wd_callV1 (As := [.int p0, .int p1]) hC hW 0 wR_c0 rfl (c_X9_readsNumber l D cy ad X n T p0 p1 r1 hr2) (cwV 2 hts (gu_V w_10_4 w_10_1 w_10_2 w_10_3 w_1_5) rfl rfl rfl hdX9_readsNumber ⟨Nat.le_of_ble_eq_true rfl, Nat.le_of_ble_eq_true rfl⟩) rfl hl.1 rfl (Nat.le_of_ble_eq_true rfl) ⟨Nat.zero_le _, Nat.zero_le _⟩ dX9_takesNumber_3 (fun H locs hW => ?_)
  refine lv_if_eq (tgt := 20) hx hb dX9_takesNumber_6 (by decide) (fun c3 => ?_) (fun c3 => ?_)
  · replace h := ite_t h c3
    refine lv_iconst (v := 0) hx hb dX9_takesNumber_20 (by decide) ?_
    obtain rfl := Option.some.inj h
    exact wd_zret hA hQ hC hr hk hW rfl dX9_takesNumber_21
  · replace h := ite_f h c3
    refine lv_aload_n hx hb dX9_takesNumber_9 rfl (lv_at hl 0 rfl) ?_
    obtain ⟨r4, hr5, h⟩ := bd_of h
    refine wd_callV1 (As := []) hC hW 0 wR_c0 rfl (c_X9_isDigit l D cy ad X r1.2 r4 hr5) (cwV 0 hts (gu_V w_10_8 w_10_5 w_10_6 w_10_7 w_1_5) rfl rfl rfl hdX9_isDigit ⟨Nat.le_of_ble_eq_true rfl, Nat.le_of_ble_eq_true rfl⟩) rfl hl.1 rfl (Nat.le_of_ble_eq_true rfl) ⟨Nat.zero_le _, Nat.zero_le _⟩ dX9_takesNumber_10 (fun H locs hW => ?_)
    refine lv_if_ne (tgt := 20) hx hb dX9_takesNumber_13 (by decide) (fun c6 => ?_) (fun c6 => ?_)
    · replace h := ite_f h c6
      refine lv_iconst (v := 0) hx hb dX9_takesNumber_20 (by decide) ?_
      obtain rfl := Option.some.inj h
      exact wd_zret hA hQ hC hr hk hW rfl dX9_takesNumber_21
    · replace h := ite_t h c6
      refine lv_iconst (v := 1) hx hb dX9_takesNumber_16 (by decide) ?_
      refine lv_goto (tgt := 21) hx hb dX9_takesNumber_17 (by decide) ?_
      obtain rfl := Option.some.inj h
      exact wd_zret hA hQ hC hr hk hW rfl dX9_takesNumber_21
def m_X9_takesLot_L14 : Nat → St → Int32 → Option (Int32 × St)
  | 0, _, _ => none
  | n + 1, T, x1 =>
    if (T.1 3) ≤ x1 then (some (1, T)) else (ck x1 6 (if (T.2.1 5 x1.toNatClampNeg) = (T.1 21) then (nm (sI T 19 ((T.1 19) - 1)) (fun T7 => some (0, T7))) else (m_X9_takesLot_L14 n T (x1 + 1))))
theorem m_X9_takesLot_L14_0 (T : St) (x1 : Int32) : m_X9_takesLot_L14 0 T x1 = none := rfl
theorem m_X9_takesLot_L14_s {n : Nat} {T : St} {x1 : Int32} : m_X9_takesLot_L14 (n + 1) T x1 =
    (if (T.1 3) ≤ x1 then (some (1, T)) else (ck x1 6 (if (T.2.1 5 x1.toNatClampNeg) = (T.1 21) then (nm (sI T 19 ((T.1 19) - 1)) (fun T7 => some (0, T7))) else (m_X9_takesLot_L14 n T (x1 + 1))))) := rfl
def m_X9_takesLot (n : Nat) (T : St) : Option (Int32 × St) :=
  (m_X9_readsNumber n T 0 99).bind (fun r1 => if r1.1 = 0 then (some (0, r1.2)) else (m_X9_takesLot_L14 n r1.2 0))
set_option maxHeartbeats 4000000 in
set_option maxRecDepth 100000 in
theorem c_X9_takesLot (l : Launch) (D : va_G) (cy : Nat → ClassId) (ad : Nat → Nat) (X : va_W) (n : Nat) (T : St) (r : (Int32 × St)) (h : m_X9_takesLot n T = some r) : CT l yX9_takesLot (wu yX9_takesLot cX9_takesLot 2 (some .boolean)) 3 D cy [.ref (ad 0)] (wR ad cy T ++ X) (some (.int r.1)) (wR ad cy r.2 ++ X) := by
  refine CT.mk (cc := cX9_takesLot) (maxL := 2) (ret := (some .boolean)) (own := RX9) (by decide) rfl rfl (Nat.le_of_ble_eq_true rfl) ?_
  intro p e s m args below meth c ls A Q hA hQ hC hr hk hW hl
  have hx := hC.1
  have hb := hC.2.1
  have hown := hC.2.2.2.1
  have hts := hC.2.2.2.2
  have hl : lv_has ls 2 [(0, .ref (ad 0))] := hl
  have f84 := hts _ (wu_in w_9_13)
  have i9 := (fun w h => wu_in (inc_9 w h) : ∀ w ∈ u_ws RX9 TX9 40, w ∈ (wu yX9_takesLot cX9_takesLot 2 (some .boolean)))
  have f17 := hts _ (wu_in w_5_5)
  have f200 := hts _ (wu_in w_9_20)
  have f187 := hts _ (wu_in w_9_12)
  unfold m_X9_takesLot at h
  refine lv_aload_n hx hb dX9_takesLot_0 rfl (lv_at hl 0 rfl) ?_
  refine lv_iconst (v := 0) hx hb dX9_takesLot_1 (by decide) ?_
  refine lv_bipush (v := 99) hx hb dX9_takesLot_2 (by decide) ?_
  obtain ⟨r1, hr2, h⟩ := bd_of h
  refine wd_callV1 (As := [.int 0, .int 99]) hC hW 0 wR_c0 rfl (c_X9_readsNumber l D cy ad X n T 0 99 r1 hr2) (cwV 2 hts (gu_V w_10_4 w_10_1 w_10_2 w_10_3 w_1_5) rfl rfl rfl hdX9_readsNumber ⟨Nat.le_of_ble_eq_true rfl, Nat.le_of_ble_eq_true rfl⟩) rfl hl.1 rfl (Nat.le_of_ble_eq_true rfl) ⟨Nat.zero_le _, Nat.zero_le _⟩ dX9_takesLot_4 (fun H locs hW => ?_)
  refine lv_if_ne (tgt := 12) hx hb dX9_takesLot_7 (by decide) (fun c3 => ?_) (fun c3 => ?_)
  · replace h := ite_f h c3
    refine lv_iconst (v := 0) hx hb dX9_takesLot_12 (by decide) ?_
    refine lv_istore_n (lv' := [(1, .int 0), (0, .ref (ad 0))]) hx hb dX9_takesLot_13 rfl hl (by decide) rfl (fun ls hl => ?_)
    have hL14 : ∀ (n : Nat) (T : St) (x1 : Int32)  (H : Heap) (locs : List Loc) (ls : Array Slot), m_X9_takesLot_L14 n T x1 = some r → Wd D cy A s (wR ad cy T ++ X) H locs → lv_has ls 2 [(0, .ref (ad 0)), (1, .int x1)] → W p l e (RM 3) s m args below meth c H locs 0 0 Q (F0 m 14 ls []) := by
      intro n
      induction n with
      | zero =>
        intro T x1  H locs ls h
        exact absurd (h.symm.trans (m_X9_takesLot_L14_0 ..)) (by simp)
      | succ n ih =>
        intro T x1  H locs ls h hW hl
        rw [m_X9_takesLot_L14_s] at h
        refine lv_iload_n hx hb dX9_takesLot_14 rfl (lv_at hl 1 rfl) ?_
        refine lv_aload_n hx hb dX9_takesLot_15 rfl (lv_at hl 0 rfl) ?_
        refine wd_get hC i9 hW 0 wR_c0 rfl 3 (Nat.le_of_ble_eq_true rfl) f84 rfl rfl dX9_takesLot_16 ?_
        refine lv_icmp_ge (tgt := 53) hx hb dX9_takesLot_19 (by decide) (fun c4 => ?_) (fun c4 => ?_)
        · replace h := ite_t h c4
          refine lv_iconst (v := 1) hx hb dX9_takesLot_53 (by decide) ?_
          obtain rfl := Option.some.inj h
          exact wd_zret hA hQ hC hr hk hW rfl dX9_takesLot_54
        · replace h := ite_f h c4
          refine lv_aload_n hx hb dX9_takesLot_22 rfl (lv_at hl 0 rfl) ?_
          refine wd_get hC i9 hW 0 wR_c0 rfl 5 (Nat.le_of_ble_eq_true rfl) f17 rfl rfl dX9_takesLot_23 ?_
          refine lv_iload_n hx hb dX9_takesLot_26 rfl (lv_at hl 1 rfl) ?_
          obtain ⟨hi5, h⟩ := ck_of h
          refine wd_iald hC hW 3 wR_c3 hi5 dX9_takesLot_27 ?_
          refine lv_aload_n hx hb dX9_takesLot_28 rfl (lv_at hl 0 rfl) ?_
          refine wd_get hC i9 hW 0 wR_c0 rfl 21 (Nat.le_of_ble_eq_true rfl) f200 rfl rfl dX9_takesLot_29 ?_
          refine lv_icmp_ne (tgt := 47) hx hb dX9_takesLot_32 (by decide) (fun c6 => ?_) (fun c6 => ?_)
          · replace h := ite_f h c6
            refine lv_iinc (v := x1 + 1) (lv' := [(1, .int (x1 + 1)), (0, .ref (ad 0))]) hx hb dX9_takesLot_47 hl (k := 1) rfl rfl (by decide) rfl (fun ls hl => ?_)
            refine lv_goto (tgt := 14) hx hb dX9_takesLot_50 (by decide) ?_
            exact ih T (x1 + 1) _ _ _ h hW (lv_sub hl [1, 0] rfl)
          · replace h := ite_t h c6
            refine lv_aload_n hx hb dX9_takesLot_35 rfl (lv_at hl 0 rfl) ?_
            refine lv_dup hx hb dX9_takesLot_36 rfl ?_
            refine wd_get hC i9 hW 0 wR_c0 rfl 19 (Nat.le_of_ble_eq_true rfl) f187 rfl rfl dX9_takesLot_37 ?_
            refine lv_iconst (v := 1) hx hb dX9_takesLot_40 (by decide) ?_
            refine lv_isub hx hb dX9_takesLot_41 ?_
            refine wd_put hC i9 tyX9_ok nmX9 hW 0 wR_c0 rfl 19 (Nat.le_of_ble_eq_true rfl) f187 rfl rfl rfl rfl (Nat.le_of_ble_eq_true rfl) wR_s0_19 dX9_takesLot_42 (fun H locs hW => ?_)
            obtain ⟨T7, e8, h⟩ := nm_of h
            replace hW := wq_T e8 hW
            refine lv_iconst (v := 0) hx hb dX9_takesLot_45 (by decide) ?_
            obtain rfl := Option.some.inj h
            exact wd_zret hA hQ hC hr hk hW rfl dX9_takesLot_46
    exact hL14 n r1.2 0  _ _ _ h hW (lv_sub hl [1, 0] rfl)
  · replace h := ite_t h c3
    refine lv_iconst (v := 0) hx hb dX9_takesLot_10 (by decide) ?_
    obtain rfl := Option.some.inj h
    exact wd_zret hA hQ hC hr hk hW rfl dX9_takesLot_11
def m_X9_takesTable_L4 : Nat → St → Int32 → Int32 → Int32 → Option (Int32 × St)
  | 0, _, _, _, _ => none
  | n + 1, T, x1, x2, x3 =>
    if x3 = 0 then (ck x1 3 (nm (sA T 24 x1.toNatClampNeg x2) (fun T3 => some (1, T3)))) else (((if x2 = 0 then (some 1) else (ck (((6 * x1) + x2) - 1) 18 (some ((T.2.1 25 (((6 * x1) + x2) - 1).toNatClampNeg) + 1))) : Option (Int32))).bind (fun q6 => (m_X9_takesNumber n T q6 40).bind (fun r8 => if r8.1 = 0 then (some (0, r8.2)) else (ck ((6 * x1) + x2) 18 (nm (sA r8.2 25 ((6 * x1) + x2).toNatClampNeg (r8.2.1 21)) (fun T12 => (m_X9_takes T12 61).bind (fun r14 => if r14.1 = 0 then (some (0, r14.2)) else (((if x2 = 0 then (some 1000) else (ck (((6 * x1) + x2) - 1) 18 (some (r14.2.2.1 26 (((6 * x1) + x2) - 1).toNatClampNeg))) : Option (Int32))).bind (fun q18 => (m_X9_takesNumber n r14.2 0 q18).bind (fun r20 => if r20.1 = 0 then (some (0, r20.2)) else (ck ((6 * x1) + x2) 18 (nm (sA r20.2 26 ((6 * x1) + x2).toNatClampNeg (r20.2.1 21)) (fun T24 => if 6 ≤ (x2 + 1) then (m_X9_takesTable_L4 n T24 x1 (x2 + 1) 0) else ((m_X9_takes T24 44).bind (fun r27 => if r27.1 = 0 then (m_X9_takesTable_L4 n r27.2 x1 (x2 + 1) 0) else (m_X9_takesTable_L4 n r27.2 x1 (x2 + 1) 1))))))))))))))))
theorem m_X9_takesTable_L4_0 (T : St) (x1 : Int32) (x2 : Int32) (x3 : Int32) : m_X9_takesTable_L4 0 T x1 x2 x3 = none := rfl
theorem m_X9_takesTable_L4_s {n : Nat} {T : St} {x1 : Int32} {x2 : Int32} {x3 : Int32} : m_X9_takesTable_L4 (n + 1) T x1 x2 x3 =
    (if x3 = 0 then (ck x1 3 (nm (sA T 24 x1.toNatClampNeg x2) (fun T3 => some (1, T3)))) else (((if x2 = 0 then (some 1) else (ck (((6 * x1) + x2) - 1) 18 (some ((T.2.1 25 (((6 * x1) + x2) - 1).toNatClampNeg) + 1))) : Option (Int32))).bind (fun q6 => (m_X9_takesNumber n T q6 40).bind (fun r8 => if r8.1 = 0 then (some (0, r8.2)) else (ck ((6 * x1) + x2) 18 (nm (sA r8.2 25 ((6 * x1) + x2).toNatClampNeg (r8.2.1 21)) (fun T12 => (m_X9_takes T12 61).bind (fun r14 => if r14.1 = 0 then (some (0, r14.2)) else (((if x2 = 0 then (some 1000) else (ck (((6 * x1) + x2) - 1) 18 (some (r14.2.2.1 26 (((6 * x1) + x2) - 1).toNatClampNeg))) : Option (Int32))).bind (fun q18 => (m_X9_takesNumber n r14.2 0 q18).bind (fun r20 => if r20.1 = 0 then (some (0, r20.2)) else (ck ((6 * x1) + x2) 18 (nm (sA r20.2 26 ((6 * x1) + x2).toNatClampNeg (r20.2.1 21)) (fun T24 => if 6 ≤ (x2 + 1) then (m_X9_takesTable_L4 n T24 x1 (x2 + 1) 0) else ((m_X9_takes T24 44).bind (fun r27 => if r27.1 = 0 then (m_X9_takesTable_L4 n r27.2 x1 (x2 + 1) 0) else (m_X9_takesTable_L4 n r27.2 x1 (x2 + 1) 1))))))))))))))))) := rfl
def m_X9_takesTable (n : Nat) (T : St) (p0 : Int32) : Option (Int32 × St) :=
  m_X9_takesTable_L4 n T p0 0 1
set_option maxHeartbeats 4000000 in
set_option maxRecDepth 100000 in
theorem c_X9_takesTable (l : Launch) (D : va_G) (cy : Nat → ClassId) (ad : Nat → Nat) (X : va_W) (n : Nat) (T : St) (p0 : Int32) (r : (Int32 × St)) (h : m_X9_takesTable n T p0 = some r) : CT l yX9_takesTable (wu yX9_takesTable cX9_takesTable 5 (some .boolean)) 4 D cy [.ref (ad 0), .int p0] (wR ad cy T ++ X) (some (.int r.1)) (wR ad cy r.2 ++ X) := by
  refine CT.mk (cc := cX9_takesTable) (maxL := 5) (ret := (some .boolean)) (own := RX9) (by decide) rfl rfl (Nat.le_of_ble_eq_true rfl) ?_
  intro p e s m args below meth c ls A Q hA hQ hC hr hk hW hl
  have hx := hC.1
  have hb := hC.2.1
  have hown := hC.2.2.2.1
  have hts := hC.2.2.2.2
  have hl : lv_has ls 5 [(0, .ref (ad 0)), (1, .int p0)] := hl
  have f44 := hts _ (wu_in w_5_14)
  have i9 := (fun w h => wu_in (inc_9 w h) : ∀ w ∈ u_ws RX9 TX9 40, w ∈ (wu yX9_takesTable cX9_takesTable 5 (some .boolean)))
  have f47 := hts _ (wu_in w_5_15)
  have f200 := hts _ (wu_in w_9_20)
  have f50 := hts _ (wu_in w_5_16)
  unfold m_X9_takesTable at h
  refine lv_iconst (v := 0) hx hb dX9_takesTable_0 (by decide) ?_
  refine lv_istore_n (lv' := [(2, .int 0), (0, .ref (ad 0)), (1, .int p0)]) hx hb dX9_takesTable_1 rfl hl (by decide) rfl (fun ls hl => ?_)
  refine lv_iconst (v := 1) hx hb dX9_takesTable_2 (by decide) ?_
  refine lv_istore_n (lv' := [(3, .int 1), (2, .int 0), (0, .ref (ad 0)), (1, .int p0)]) hx hb dX9_takesTable_3 rfl hl (by decide) rfl (fun ls hl => ?_)
  have hL4 : ∀ (n : Nat) (T : St) (x1 : Int32) (x2 : Int32) (x3 : Int32)  (H : Heap) (locs : List Loc) (ls : Array Slot), m_X9_takesTable_L4 n T x1 x2 x3 = some r → Wd D cy A s (wR ad cy T ++ X) H locs → lv_has ls 5 [(0, .ref (ad 0)), (1, .int x1), (2, .int x2), (3, .int x3)] → W p l e (RM 4) s m args below meth c H locs 0 0 Q (F0 m 4 ls []) := by
    intro n
    induction n with
    | zero =>
      intro T x1 x2 x3  H locs ls h
      exact absurd (h.symm.trans (m_X9_takesTable_L4_0 ..)) (by simp)
    | succ n ih =>
      intro T x1 x2 x3  H locs ls h hW hl
      rw [m_X9_takesTable_L4_s] at h
      refine lv_iload_n hx hb dX9_takesTable_4 rfl (lv_at hl 3 rfl) ?_
      refine lv_if_eq (tgt := 133) hx hb dX9_takesTable_5 (by decide) (fun c1 => ?_) (fun c1 => ?_)
      · replace h := ite_t h c1
        refine lv_aload_n hx hb dX9_takesTable_133 rfl (lv_at hl 0 rfl) ?_
        refine wd_get hC i9 hW 0 wR_c0 rfl 24 (Nat.le_of_ble_eq_true rfl) f44 rfl rfl dX9_takesTable_134 ?_
        refine lv_iload_n hx hb dX9_takesTable_137 rfl (lv_at hl 1 rfl) ?_
        refine lv_iload_n hx hb dX9_takesTable_138 rfl (lv_at hl 2 rfl) ?_
        obtain ⟨hi2, h⟩ := ck_of h
        refine wd_iast hC hW 12 wR_c12 hi2 wR_t12 dX9_takesTable_139 (fun H locs hW => ?_)
        obtain ⟨T3, e4, h⟩ := nm_of h
        replace hW := wq_T e4 hW
        refine lv_iconst (v := 1) hx hb dX9_takesTable_140 (by decide) ?_
        obtain rfl := Option.some.inj h
        exact wd_zret hA hQ hC hr hk hW rfl dX9_takesTable_141
      · replace h := ite_f h c1
        refine lv_bipush (v := 6) hx hb dX9_takesTable_8 (by decide) ?_
        refine lv_iload_n hx hb dX9_takesTable_10 rfl (lv_at hl 1 rfl) ?_
        refine lv_imul hx hb dX9_takesTable_11 ?_
        refine lv_iload_n hx hb dX9_takesTable_12 rfl (lv_at hl 2 rfl) ?_
        refine lv_iadd hx hb dX9_takesTable_13 ?_
        refine lv_istore (lv' := [(4, .int ((6 * x1) + x2)), (0, .ref (ad 0)), (1, .int x1), (2, .int x2), (3, .int x3)]) hx hb dX9_takesTable_14 hl (by decide) rfl (fun ls hl => ?_)
        refine lv_aload_n hx hb dX9_takesTable_16 rfl (lv_at hl 1 rfl) ?_
        refine lv_iload_n hx hb dX9_takesTable_17 rfl (lv_at hl 3 rfl) ?_
        obtain ⟨q6, hq7, h⟩ := bd_of h
        have hJ36 : ∀ (H : Heap) (locs : List Loc) (ls : Array Slot), Wd D cy A s (wR ad cy T ++ X) H locs → lv_has ls 5 [(4, .int ((6 * x1) + x2)), (0, .ref (ad 0)), (1, .int x1), (2, .int x2), (3, .int x3)] → W p l e (RM 4) s m args below meth c H locs 0 0 Q (F0 m 36 ls [.int q6, .ref (ad 0)]) := by
          intro H locs ls hW hl
          refine lv_bipush (v := 40) hx hb dX9_takesTable_36 (by decide) ?_
          obtain ⟨r8, hr9, h⟩ := bd_of h
          refine wd_callV1 (As := [.int q6, .int 40]) hC hW 0 wR_c0 rfl (c_X9_takesNumber l D cy ad X n T q6 40 r8 hr9) (cwV 2 hts (gu_V w_10_0 w_9_21 w_9_22 w_9_23 w_1_5) rfl rfl rfl hdX9_takesNumber ⟨Nat.le_of_ble_eq_true rfl, Nat.le_of_ble_eq_true rfl⟩) rfl hl.1 rfl (Nat.le_of_ble_eq_true rfl) ⟨Nat.zero_le _, Nat.zero_le _⟩ dX9_takesTable_38 (fun H locs hW => ?_)
          refine lv_if_ne (tgt := 46) hx hb dX9_takesTable_41 (by decide) (fun c10 => ?_) (fun c10 => ?_)
          · replace h := ite_f h c10
            refine lv_aload_n hx hb dX9_takesTable_46 rfl (lv_at hl 1 rfl) ?_
            refine wd_get hC i9 hW 0 wR_c0 rfl 25 (Nat.le_of_ble_eq_true rfl) f47 rfl rfl dX9_takesTable_47 ?_
            refine lv_iload hx hb dX9_takesTable_50 (lv_at hl 0 rfl) ?_
            refine lv_aload_n hx hb dX9_takesTable_52 rfl (lv_at hl 1 rfl) ?_
            refine wd_get hC i9 hW 0 wR_c0 rfl 21 (Nat.le_of_ble_eq_true rfl) f200 rfl rfl dX9_takesTable_53 ?_
            obtain ⟨hi11, h⟩ := ck_of h
            refine wd_iast hC hW 13 wR_c13 hi11 wR_t13 dX9_takesTable_56 (fun H locs hW => ?_)
            obtain ⟨T12, e13, h⟩ := nm_of h
            replace hW := wq_T e13 hW
            refine lv_aload_n hx hb dX9_takesTable_57 rfl (lv_at hl 1 rfl) ?_
            refine lv_bipush (v := 61) hx hb dX9_takesTable_58 (by decide) ?_
            obtain ⟨r14, hr15, h⟩ := bd_of h
            refine wd_callV1 (As := [.int 61]) hC hW 0 wR_c0 rfl (c_X9_takes l D cy ad X T12 61 r14 hr15) (cwV 1 hts (gu_V w_10_14 w_10_11 w_10_12 w_10_13 w_1_5) rfl rfl rfl hdX9_takes ⟨Nat.le_of_ble_eq_true rfl, Nat.le_of_ble_eq_true rfl⟩) rfl hl.1 rfl (Nat.le_of_ble_eq_true rfl) ⟨Nat.zero_le _, Nat.zero_le _⟩ dX9_takesTable_60 (fun H locs hW => ?_)
            refine lv_if_eq (tgt := 93) hx hb dX9_takesTable_63 (by decide) (fun c16 => ?_) (fun c16 => ?_)
            · replace h := ite_t h c16
              refine lv_iconst (v := 0) hx hb dX9_takesTable_93 (by decide) ?_
              obtain rfl := Option.some.inj h
              exact wd_zret hA hQ hC hr hk hW rfl dX9_takesTable_94
            · replace h := ite_f h c16
              refine lv_aload_n hx hb dX9_takesTable_66 rfl (lv_at hl 1 rfl) ?_
              refine lv_iconst (v := 0) hx hb dX9_takesTable_67 (by decide) ?_
              refine lv_iload_n hx hb dX9_takesTable_68 rfl (lv_at hl 3 rfl) ?_
              obtain ⟨q18, hq19, h⟩ := bd_of h
              have hJ87 : ∀ (H : Heap) (locs : List Loc) (ls : Array Slot), Wd D cy A s (wR ad cy r14.2 ++ X) H locs → lv_has ls 5 [(4, .int ((6 * x1) + x2)), (0, .ref (ad 0)), (1, .int x1), (2, .int x2), (3, .int x3)] → W p l e (RM 4) s m args below meth c H locs 0 0 Q (F0 m 87 ls [.int q18, .int 0, .ref (ad 0)]) := by
                intro H locs ls hW hl
                obtain ⟨r20, hr21, h⟩ := bd_of h
                refine wd_callV1 (As := [.int 0, .int q18]) hC hW 0 wR_c0 rfl (c_X9_takesNumber l D cy ad X n r14.2 0 q18 r20 hr21) (cwV 2 hts (gu_V w_10_0 w_9_21 w_9_22 w_9_23 w_1_5) rfl rfl rfl hdX9_takesNumber ⟨Nat.le_of_ble_eq_true rfl, Nat.le_of_ble_eq_true rfl⟩) rfl hl.1 rfl (Nat.le_of_ble_eq_true rfl) ⟨Nat.zero_le _, Nat.zero_le _⟩ dX9_takesTable_87 (fun H locs hW => ?_)
                refine lv_if_ne (tgt := 95) hx hb dX9_takesTable_90 (by decide) (fun c22 => ?_) (fun c22 => ?_)
                · replace h := ite_f h c22
                  refine lv_aload_n hx hb dX9_takesTable_95 rfl (lv_at hl 1 rfl) ?_
                  refine wd_get hC i9 hW 0 wR_c0 rfl 26 (Nat.le_of_ble_eq_true rfl) f50 rfl rfl dX9_takesTable_96 ?_
                  refine lv_iload hx hb dX9_takesTable_99 (lv_at hl 0 rfl) ?_
                  refine lv_aload_n hx hb dX9_takesTable_101 rfl (lv_at hl 1 rfl) ?_
                  refine wd_get hC i9 hW 0 wR_c0 rfl 21 (Nat.le_of_ble_eq_true rfl) f200 rfl rfl dX9_takesTable_102 ?_
                  obtain ⟨hi23, h⟩ := ck_of h
                  refine wd_iast hC hW 14 wR_c14 hi23 wR_t14 dX9_takesTable_105 (fun H locs hW => ?_)
                  obtain ⟨T24, e25, h⟩ := nm_of h
                  replace hW := wq_T e25 hW
                  refine lv_iinc (v := x2 + 1) (lv' := [(2, .int (x2 + 1)), (4, .int ((6 * x1) + x2)), (0, .ref (ad 0)), (1, .int x1), (3, .int x3)]) hx hb dX9_takesTable_106 hl (k := 3) rfl rfl (by decide) rfl (fun ls hl => ?_)
                  refine lv_iload_n hx hb dX9_takesTable_109 rfl (lv_at hl 0 rfl) ?_
                  refine lv_bipush (v := 6) hx hb dX9_takesTable_110 (by decide) ?_
                  refine lv_icmp_ge (tgt := 128) hx hb dX9_takesTable_112 (by decide) (fun c26 => ?_) (fun c26 => ?_)
                  · replace h := ite_t h c26
                    refine lv_iconst (v := 0) hx hb dX9_takesTable_128 (by decide) ?_
                    refine lv_istore_n (lv' := [(3, .int 0), (2, .int (x2 + 1)), (4, .int ((6 * x1) + x2)), (0, .ref (ad 0)), (1, .int x1)]) hx hb dX9_takesTable_129 rfl hl (by decide) rfl (fun ls hl => ?_)
                    refine lv_goto (tgt := 4) hx hb dX9_takesTable_130 (by decide) ?_
                    exact ih T24 x1 (x2 + 1) 0 _ _ _ h hW (lv_sub hl [3, 4, 1, 0] rfl)
                  · replace h := ite_f h c26
                    refine lv_aload_n hx hb dX9_takesTable_115 rfl (lv_at hl 2 rfl) ?_
                    refine lv_bipush (v := 44) hx hb dX9_takesTable_116 (by decide) ?_
                    obtain ⟨r27, hr28, h⟩ := bd_of h
                    refine wd_callV1 (As := [.int 44]) hC hW 0 wR_c0 rfl (c_X9_takes l D cy ad X T24 44 r27 hr28) (cwV 1 hts (gu_V w_10_14 w_10_11 w_10_12 w_10_13 w_1_5) rfl rfl rfl hdX9_takes ⟨Nat.le_of_ble_eq_true rfl, Nat.le_of_ble_eq_true rfl⟩) rfl hl.1 rfl (Nat.le_of_ble_eq_true rfl) ⟨Nat.zero_le _, Nat.zero_le _⟩ dX9_takesTable_118 (fun H locs hW => ?_)
                    refine lv_if_eq (tgt := 128) hx hb dX9_takesTable_121 (by decide) (fun c29 => ?_) (fun c29 => ?_)
                    · replace h := ite_t h c29
                      refine lv_iconst (v := 0) hx hb dX9_takesTable_128 (by decide) ?_
                      refine lv_istore_n (lv' := [(3, .int 0), (2, .int (x2 + 1)), (4, .int ((6 * x1) + x2)), (0, .ref (ad 0)), (1, .int x1)]) hx hb dX9_takesTable_129 rfl hl (by decide) rfl (fun ls hl => ?_)
                      refine lv_goto (tgt := 4) hx hb dX9_takesTable_130 (by decide) ?_
                      exact ih r27.2 x1 (x2 + 1) 0 _ _ _ h hW (lv_sub hl [3, 4, 1, 0] rfl)
                    · replace h := ite_f h c29
                      refine lv_iconst (v := 1) hx hb dX9_takesTable_124 (by decide) ?_
                      refine lv_goto (tgt := 129) hx hb dX9_takesTable_125 (by decide) ?_
                      refine lv_istore_n (lv' := [(3, .int 1), (2, .int (x2 + 1)), (4, .int ((6 * x1) + x2)), (0, .ref (ad 0)), (1, .int x1)]) hx hb dX9_takesTable_129 rfl hl (by decide) rfl (fun ls hl => ?_)
                      refine lv_goto (tgt := 4) hx hb dX9_takesTable_130 (by decide) ?_
                      exact ih r27.2 x1 (x2 + 1) 1 _ _ _ h hW (lv_sub hl [3, 4, 1, 0] rfl)
                · replace h := ite_t h c22
                  refine lv_iconst (v := 0) hx hb dX9_takesTable_93 (by decide) ?_
                  obtain rfl := Option.some.inj h
                  exact wd_zret hA hQ hC hr hk hW rfl dX9_takesTable_94
              replace h := hq19
              refine lv_if_ne (tgt := 78) hx hb dX9_takesTable_69 (by decide) (fun c17 => ?_) (fun c17 => ?_)
              · replace h := ite_f h c17
                refine lv_aload_n hx hb dX9_takesTable_78 rfl (lv_at hl 1 rfl) ?_
                refine wd_get hC i9 hW 0 wR_c0 rfl 26 (Nat.le_of_ble_eq_true rfl) f50 rfl rfl dX9_takesTable_79 ?_
                refine lv_iload hx hb dX9_takesTable_82 (lv_at hl 0 rfl) ?_
                refine lv_iconst (v := 1) hx hb dX9_takesTable_84 (by decide) ?_
                refine lv_isub hx hb dX9_takesTable_85 ?_
                obtain ⟨hi30, h⟩ := ck_of h
                refine wd_iald hC hW 14 wR_c14 hi30 dX9_takesTable_86 ?_
                obtain rfl := Option.some.inj h
                exact hJ87 _ _ _ hW (lv_sub hl [0, 1, 2, 3, 4] rfl)
              · replace h := ite_t h c17
                refine lv_sipush (v := 1000) hx hb dX9_takesTable_72 (by decide) ?_
                refine lv_goto (tgt := 87) hx hb dX9_takesTable_75 (by decide) ?_
                obtain rfl := Option.some.inj h
                exact hJ87 _ _ _ hW (lv_sub hl [0, 1, 2, 3, 4] rfl)
          · replace h := ite_t h c10
            refine lv_iconst (v := 0) hx hb dX9_takesTable_44 (by decide) ?_
            obtain rfl := Option.some.inj h
            exact wd_zret hA hQ hC hr hk hW rfl dX9_takesTable_45
        replace h := hq7
        refine lv_if_ne (tgt := 25) hx hb dX9_takesTable_18 (by decide) (fun c5 => ?_) (fun c5 => ?_)
        · replace h := ite_f h c5
          refine lv_aload_n hx hb dX9_takesTable_25 rfl (lv_at hl 1 rfl) ?_
          refine wd_get hC i9 hW 0 wR_c0 rfl 25 (Nat.le_of_ble_eq_true rfl) f47 rfl rfl dX9_takesTable_26 ?_
          refine lv_iload hx hb dX9_takesTable_29 (lv_at hl 0 rfl) ?_
          refine lv_iconst (v := 1) hx hb dX9_takesTable_31 (by decide) ?_
          refine lv_isub hx hb dX9_takesTable_32 ?_
          obtain ⟨hi31, h⟩ := ck_of h
          refine wd_iald hC hW 13 wR_c13 hi31 dX9_takesTable_33 ?_
          refine lv_iconst (v := 1) hx hb dX9_takesTable_34 (by decide) ?_
          refine lv_iadd hx hb dX9_takesTable_35 ?_
          obtain rfl := Option.some.inj h
          exact hJ36 _ _ _ hW (lv_sub hl [0, 1, 2, 3, 4] rfl)
        · replace h := ite_t h c5
          refine lv_iconst (v := 1) hx hb dX9_takesTable_21 (by decide) ?_
          refine lv_goto (tgt := 36) hx hb dX9_takesTable_22 (by decide) ?_
          obtain rfl := Option.some.inj h
          exact hJ36 _ _ _ hW (lv_sub hl [0, 1, 2, 3, 4] rfl)
  exact hL4 n T p0 0 1  _ _ _ h hW (lv_sub hl [2, 3, 1, 0] rfl)
def m_X9_takesPlan (n : Nat) (T : St) (p0 : Int32) : Option (Int32 × St) :=
  (m_X9_takes T 47).bind (fun r1 => if r1.1 = 0 then (some (0, r1.2)) else ((m_X9_takesNumber n r1.2 1 40).bind (fun r4 => if r4.1 = 0 then (some (0, r4.2)) else (ck (3 * p0) 9 (nm (sA r4.2 27 (3 * p0).toNatClampNeg (r4.2.1 21)) (fun T8 => (m_X9_takes T8 43).bind (fun r10 => if r10.1 = 0 then (some (0, r10.2)) else ((m_X9_takesNumber n r10.2 1 9).bind (fun r13 => if r13.1 = 0 then (some (0, r13.2)) else (ck ((3 * p0) + 1) 9 (nm (sA r13.2 27 ((3 * p0) + 1).toNatClampNeg (r13.2.1 21)) (fun T17 => (m_X9_takes T17 43).bind (fun r19 => if r19.1 = 0 then (some (0, r19.2)) else ((m_X9_takesNumber n r19.2 0 9).bind (fun r22 => if r22.1 = 0 then (some (0, r22.2)) else (ck ((3 * p0) + 2) 9 (nm (sA r22.2 27 ((3 * p0) + 2).toNatClampNeg (r22.2.1 21)) (fun T26 => some (1, T26)))))))))))))))))))
set_option maxHeartbeats 4000000 in
set_option maxRecDepth 100000 in
theorem c_X9_takesPlan (l : Launch) (D : va_G) (cy : Nat → ClassId) (ad : Nat → Nat) (X : va_W) (n : Nat) (T : St) (p0 : Int32) (r : (Int32 × St)) (h : m_X9_takesPlan n T p0 = some r) : CT l yX9_takesPlan (wu yX9_takesPlan cX9_takesPlan 2 (some .boolean)) 4 D cy [.ref (ad 0), .int p0] (wR ad cy T ++ X) (some (.int r.1)) (wR ad cy r.2 ++ X) := by
  refine CT.mk (cc := cX9_takesPlan) (maxL := 2) (ret := (some .boolean)) (own := RX9) (by decide) rfl rfl (Nat.le_of_ble_eq_true rfl) ?_
  intro p e s m args below meth c ls A Q hA hQ hC hr hk hW hl
  have hx := hC.1
  have hb := hC.2.1
  have hown := hC.2.2.2.1
  have hts := hC.2.2.2.2
  have hl : lv_has ls 2 [(0, .ref (ad 0)), (1, .int p0)] := hl
  have f53 := hts _ (wu_in w_5_17)
  have i9 := (fun w h => wu_in (inc_9 w h) : ∀ w ∈ u_ws RX9 TX9 40, w ∈ (wu yX9_takesPlan cX9_takesPlan 2 (some .boolean)))
  have f200 := hts _ (wu_in w_9_20)
  unfold m_X9_takesPlan at h
  refine lv_aload_n hx hb dX9_takesPlan_0 rfl (lv_at hl 0 rfl) ?_
  refine lv_bipush (v := 47) hx hb dX9_takesPlan_1 (by decide) ?_
  obtain ⟨r1, hr2, h⟩ := bd_of h
  refine wd_callV1 (As := [.int 47]) hC hW 0 wR_c0 rfl (c_X9_takes l D cy ad X T 47 r1 hr2) (cwV 1 hts (gu_V w_10_14 w_10_11 w_10_12 w_10_13 w_1_5) rfl rfl rfl hdX9_takes ⟨Nat.le_of_ble_eq_true rfl, Nat.le_of_ble_eq_true rfl⟩) rfl hl.1 rfl (Nat.le_of_ble_eq_true rfl) ⟨Nat.zero_le _, Nat.zero_le _⟩ dX9_takesPlan_3 (fun H locs hW => ?_)
  refine lv_if_eq (tgt := 19) hx hb dX9_takesPlan_6 (by decide) (fun c3 => ?_) (fun c3 => ?_)
  · replace h := ite_t h c3
    refine lv_iconst (v := 0) hx hb dX9_takesPlan_19 (by decide) ?_
    obtain rfl := Option.some.inj h
    exact wd_zret hA hQ hC hr hk hW rfl dX9_takesPlan_20
  · replace h := ite_f h c3
    refine lv_aload_n hx hb dX9_takesPlan_9 rfl (lv_at hl 0 rfl) ?_
    refine lv_iconst (v := 1) hx hb dX9_takesPlan_10 (by decide) ?_
    refine lv_bipush (v := 40) hx hb dX9_takesPlan_11 (by decide) ?_
    obtain ⟨r4, hr5, h⟩ := bd_of h
    refine wd_callV1 (As := [.int 1, .int 40]) hC hW 0 wR_c0 rfl (c_X9_takesNumber l D cy ad X n r1.2 1 40 r4 hr5) (cwV 2 hts (gu_V w_10_0 w_9_21 w_9_22 w_9_23 w_1_5) rfl rfl rfl hdX9_takesNumber ⟨Nat.le_of_ble_eq_true rfl, Nat.le_of_ble_eq_true rfl⟩) rfl hl.1 rfl (Nat.le_of_ble_eq_true rfl) ⟨Nat.zero_le _, Nat.zero_le _⟩ dX9_takesPlan_13 (fun H locs hW => ?_)
    refine lv_if_ne (tgt := 21) hx hb dX9_takesPlan_16 (by decide) (fun c6 => ?_) (fun c6 => ?_)
    · replace h := ite_f h c6
      refine lv_aload_n hx hb dX9_takesPlan_21 rfl (lv_at hl 0 rfl) ?_
      refine wd_get hC i9 hW 0 wR_c0 rfl 27 (Nat.le_of_ble_eq_true rfl) f53 rfl rfl dX9_takesPlan_22 ?_
      refine lv_iconst (v := 3) hx hb dX9_takesPlan_25 (by decide) ?_
      refine lv_iload_n hx hb dX9_takesPlan_26 rfl (lv_at hl 1 rfl) ?_
      refine lv_imul hx hb dX9_takesPlan_27 ?_
      refine lv_aload_n hx hb dX9_takesPlan_28 rfl (lv_at hl 0 rfl) ?_
      refine wd_get hC i9 hW 0 wR_c0 rfl 21 (Nat.le_of_ble_eq_true rfl) f200 rfl rfl dX9_takesPlan_29 ?_
      obtain ⟨hi7, h⟩ := ck_of h
      refine wd_iast hC hW 15 wR_c15 hi7 wR_t15 dX9_takesPlan_32 (fun H locs hW => ?_)
      obtain ⟨T8, e9, h⟩ := nm_of h
      replace hW := wq_T e9 hW
      refine lv_aload_n hx hb dX9_takesPlan_33 rfl (lv_at hl 0 rfl) ?_
      refine lv_bipush (v := 43) hx hb dX9_takesPlan_34 (by decide) ?_
      obtain ⟨r10, hr11, h⟩ := bd_of h
      refine wd_callV1 (As := [.int 43]) hC hW 0 wR_c0 rfl (c_X9_takes l D cy ad X T8 43 r10 hr11) (cwV 1 hts (gu_V w_10_14 w_10_11 w_10_12 w_10_13 w_1_5) rfl rfl rfl hdX9_takes ⟨Nat.le_of_ble_eq_true rfl, Nat.le_of_ble_eq_true rfl⟩) rfl hl.1 rfl (Nat.le_of_ble_eq_true rfl) ⟨Nat.zero_le _, Nat.zero_le _⟩ dX9_takesPlan_36 (fun H locs hW => ?_)
      refine lv_if_eq (tgt := 52) hx hb dX9_takesPlan_39 (by decide) (fun c12 => ?_) (fun c12 => ?_)
      · replace h := ite_t h c12
        refine lv_iconst (v := 0) hx hb dX9_takesPlan_52 (by decide) ?_
        obtain rfl := Option.some.inj h
        exact wd_zret hA hQ hC hr hk hW rfl dX9_takesPlan_53
      · replace h := ite_f h c12
        refine lv_aload_n hx hb dX9_takesPlan_42 rfl (lv_at hl 0 rfl) ?_
        refine lv_iconst (v := 1) hx hb dX9_takesPlan_43 (by decide) ?_
        refine lv_bipush (v := 9) hx hb dX9_takesPlan_44 (by decide) ?_
        obtain ⟨r13, hr14, h⟩ := bd_of h
        refine wd_callV1 (As := [.int 1, .int 9]) hC hW 0 wR_c0 rfl (c_X9_takesNumber l D cy ad X n r10.2 1 9 r13 hr14) (cwV 2 hts (gu_V w_10_0 w_9_21 w_9_22 w_9_23 w_1_5) rfl rfl rfl hdX9_takesNumber ⟨Nat.le_of_ble_eq_true rfl, Nat.le_of_ble_eq_true rfl⟩) rfl hl.1 rfl (Nat.le_of_ble_eq_true rfl) ⟨Nat.zero_le _, Nat.zero_le _⟩ dX9_takesPlan_46 (fun H locs hW => ?_)
        refine lv_if_ne (tgt := 54) hx hb dX9_takesPlan_49 (by decide) (fun c15 => ?_) (fun c15 => ?_)
        · replace h := ite_f h c15
          refine lv_aload_n hx hb dX9_takesPlan_54 rfl (lv_at hl 0 rfl) ?_
          refine wd_get hC i9 hW 0 wR_c0 rfl 27 (Nat.le_of_ble_eq_true rfl) f53 rfl rfl dX9_takesPlan_55 ?_
          refine lv_iconst (v := 3) hx hb dX9_takesPlan_58 (by decide) ?_
          refine lv_iload_n hx hb dX9_takesPlan_59 rfl (lv_at hl 1 rfl) ?_
          refine lv_imul hx hb dX9_takesPlan_60 ?_
          refine lv_iconst (v := 1) hx hb dX9_takesPlan_61 (by decide) ?_
          refine lv_iadd hx hb dX9_takesPlan_62 ?_
          refine lv_aload_n hx hb dX9_takesPlan_63 rfl (lv_at hl 0 rfl) ?_
          refine wd_get hC i9 hW 0 wR_c0 rfl 21 (Nat.le_of_ble_eq_true rfl) f200 rfl rfl dX9_takesPlan_64 ?_
          obtain ⟨hi16, h⟩ := ck_of h
          refine wd_iast hC hW 15 wR_c15 hi16 wR_t15 dX9_takesPlan_67 (fun H locs hW => ?_)
          obtain ⟨T17, e18, h⟩ := nm_of h
          replace hW := wq_T e18 hW
          refine lv_aload_n hx hb dX9_takesPlan_68 rfl (lv_at hl 0 rfl) ?_
          refine lv_bipush (v := 43) hx hb dX9_takesPlan_69 (by decide) ?_
          obtain ⟨r19, hr20, h⟩ := bd_of h
          refine wd_callV1 (As := [.int 43]) hC hW 0 wR_c0 rfl (c_X9_takes l D cy ad X T17 43 r19 hr20) (cwV 1 hts (gu_V w_10_14 w_10_11 w_10_12 w_10_13 w_1_5) rfl rfl rfl hdX9_takes ⟨Nat.le_of_ble_eq_true rfl, Nat.le_of_ble_eq_true rfl⟩) rfl hl.1 rfl (Nat.le_of_ble_eq_true rfl) ⟨Nat.zero_le _, Nat.zero_le _⟩ dX9_takesPlan_71 (fun H locs hW => ?_)
          refine lv_if_eq (tgt := 87) hx hb dX9_takesPlan_74 (by decide) (fun c21 => ?_) (fun c21 => ?_)
          · replace h := ite_t h c21
            refine lv_iconst (v := 0) hx hb dX9_takesPlan_87 (by decide) ?_
            obtain rfl := Option.some.inj h
            exact wd_zret hA hQ hC hr hk hW rfl dX9_takesPlan_88
          · replace h := ite_f h c21
            refine lv_aload_n hx hb dX9_takesPlan_77 rfl (lv_at hl 0 rfl) ?_
            refine lv_iconst (v := 0) hx hb dX9_takesPlan_78 (by decide) ?_
            refine lv_bipush (v := 9) hx hb dX9_takesPlan_79 (by decide) ?_
            obtain ⟨r22, hr23, h⟩ := bd_of h
            refine wd_callV1 (As := [.int 0, .int 9]) hC hW 0 wR_c0 rfl (c_X9_takesNumber l D cy ad X n r19.2 0 9 r22 hr23) (cwV 2 hts (gu_V w_10_0 w_9_21 w_9_22 w_9_23 w_1_5) rfl rfl rfl hdX9_takesNumber ⟨Nat.le_of_ble_eq_true rfl, Nat.le_of_ble_eq_true rfl⟩) rfl hl.1 rfl (Nat.le_of_ble_eq_true rfl) ⟨Nat.zero_le _, Nat.zero_le _⟩ dX9_takesPlan_81 (fun H locs hW => ?_)
            refine lv_if_ne (tgt := 89) hx hb dX9_takesPlan_84 (by decide) (fun c24 => ?_) (fun c24 => ?_)
            · replace h := ite_f h c24
              refine lv_aload_n hx hb dX9_takesPlan_89 rfl (lv_at hl 0 rfl) ?_
              refine wd_get hC i9 hW 0 wR_c0 rfl 27 (Nat.le_of_ble_eq_true rfl) f53 rfl rfl dX9_takesPlan_90 ?_
              refine lv_iconst (v := 3) hx hb dX9_takesPlan_93 (by decide) ?_
              refine lv_iload_n hx hb dX9_takesPlan_94 rfl (lv_at hl 1 rfl) ?_
              refine lv_imul hx hb dX9_takesPlan_95 ?_
              refine lv_iconst (v := 2) hx hb dX9_takesPlan_96 (by decide) ?_
              refine lv_iadd hx hb dX9_takesPlan_97 ?_
              refine lv_aload_n hx hb dX9_takesPlan_98 rfl (lv_at hl 0 rfl) ?_
              refine wd_get hC i9 hW 0 wR_c0 rfl 21 (Nat.le_of_ble_eq_true rfl) f200 rfl rfl dX9_takesPlan_99 ?_
              obtain ⟨hi25, h⟩ := ck_of h
              refine wd_iast hC hW 15 wR_c15 hi25 wR_t15 dX9_takesPlan_102 (fun H locs hW => ?_)
              obtain ⟨T26, e27, h⟩ := nm_of h
              replace hW := wq_T e27 hW
              refine lv_iconst (v := 1) hx hb dX9_takesPlan_103 (by decide) ?_
              obtain rfl := Option.some.inj h
              exact wd_zret hA hQ hC hr hk hW rfl dX9_takesPlan_104
            · replace h := ite_t h c24
              refine lv_iconst (v := 0) hx hb dX9_takesPlan_87 (by decide) ?_
              obtain rfl := Option.some.inj h
              exact wd_zret hA hQ hC hr hk hW rfl dX9_takesPlan_88
        · replace h := ite_t h c15
          refine lv_iconst (v := 0) hx hb dX9_takesPlan_52 (by decide) ?_
          obtain rfl := Option.some.inj h
          exact wd_zret hA hQ hC hr hk hW rfl dX9_takesPlan_53
    · replace h := ite_t h c6
      refine lv_iconst (v := 0) hx hb dX9_takesPlan_19 (by decide) ?_
      obtain rfl := Option.some.inj h
      exact wd_zret hA hQ hC hr hk hW rfl dX9_takesPlan_20
def m_X9_takesLifter_L49 : Nat → St → Int32 → Option (Int32 × St)
  | 0, _, _ => none
  | n + 1, T, x1 =>
    if 3 ≤ x1 then (if (T.1 19) = (T.1 20) then (some (1, T)) else (some (0, T))) else ((m_X9_takes T 59).bind (fun r16 => if r16.1 = 0 then (some (0, r16.2)) else ((m_X9_takesTable n r16.2 x1).bind (fun r19 => if r19.1 = 0 then (some (0, r19.2)) else ((m_X9_takesPlan n r19.2 x1).bind (fun r22 => if r22.1 = 0 then (some (0, r22.2)) else (m_X9_takesLifter_L49 n r22.2 (x1 + 1))))))))
theorem m_X9_takesLifter_L49_0 (T : St) (x1 : Int32) : m_X9_takesLifter_L49 0 T x1 = none := rfl
theorem m_X9_takesLifter_L49_s {n : Nat} {T : St} {x1 : Int32} : m_X9_takesLifter_L49 (n + 1) T x1 =
    (if 3 ≤ x1 then (if (T.1 19) = (T.1 20) then (some (1, T)) else (some (0, T))) else ((m_X9_takes T 59).bind (fun r16 => if r16.1 = 0 then (some (0, r16.2)) else ((m_X9_takesTable n r16.2 x1).bind (fun r19 => if r19.1 = 0 then (some (0, r19.2)) else ((m_X9_takesPlan n r19.2 x1).bind (fun r22 => if r22.1 = 0 then (some (0, r22.2)) else (m_X9_takesLifter_L49 n r22.2 (x1 + 1))))))))) := rfl
def m_X9_takesLifter (n : Nat) (T : St) : Option (Int32 × St) :=
  (m_X9_takesNumber n T 1 200).bind (fun r1 => if r1.1 = 0 then (some (0, r1.2)) else (nm (sI r1.2 22 (r1.2.1 21)) (fun T4 => (m_X9_takes T4 44).bind (fun r6 => if r6.1 = 0 then (some (0, r6.2)) else ((m_X9_takesLot n r6.2).bind (fun r9 => if r9.1 = 0 then (some (0, r9.2)) else (nm (sI r9.2 23 (r9.2.1 21)) (fun T12 => m_X9_takesLifter_L49 n T12 0))))))))
set_option maxHeartbeats 4000000 in
set_option maxRecDepth 100000 in
theorem c_X9_takesLifter (l : Launch) (D : va_G) (cy : Nat → ClassId) (ad : Nat → Nat) (X : va_W) (n : Nat) (T : St) (r : (Int32 × St)) (h : m_X9_takesLifter n T = some r) : CT l yX9_takesLifter (wu yX9_takesLifter cX9_takesLifter 2 (some .boolean)) 5 D cy [.ref (ad 0)] (wR ad cy T ++ X) (some (.int r.1)) (wR ad cy r.2 ++ X) := by
  refine CT.mk (cc := cX9_takesLifter) (maxL := 2) (ret := (some .boolean)) (own := RX9) (by decide) rfl rfl (Nat.le_of_ble_eq_true rfl) ?_
  intro p e s m args below meth c ls A Q hA hQ hC hr hk hW hl
  have hx := hC.1
  have hb := hC.2.1
  have hown := hC.2.2.2.1
  have hts := hC.2.2.2.2
  have hl : lv_has ls 2 [(0, .ref (ad 0))] := hl
  have f200 := hts _ (wu_in w_9_20)
  have i9 := (fun w h => wu_in (inc_9 w h) : ∀ w ∈ u_ws RX9 TX9 40, w ∈ (wu yX9_takesLifter cX9_takesLifter 2 (some .boolean)))
  have f212 := hts _ (wu_in w_9_14)
  have f218 := hts _ (wu_in w_9_15)
  have f187 := hts _ (wu_in w_9_12)
  have f190 := hts _ (wu_in w_9_11)
  unfold m_X9_takesLifter at h
  refine lv_aload_n hx hb dX9_takesLifter_0 rfl (lv_at hl 0 rfl) ?_
  refine lv_iconst (v := 1) hx hb dX9_takesLifter_1 (by decide) ?_
  refine lv_sipush (v := 200) hx hb dX9_takesLifter_2 (by decide) ?_
  obtain ⟨r1, hr2, h⟩ := bd_of h
  refine wd_callV1 (As := [.int 1, .int 200]) hC hW 0 wR_c0 rfl (c_X9_takesNumber l D cy ad X n T 1 200 r1 hr2) (cwV 2 hts (gu_V w_10_0 w_9_21 w_9_22 w_9_23 w_1_5) rfl rfl rfl hdX9_takesNumber ⟨Nat.le_of_ble_eq_true rfl, Nat.le_of_ble_eq_true rfl⟩) rfl hl.1 rfl (Nat.le_of_ble_eq_true rfl) ⟨Nat.zero_le _, Nat.zero_le _⟩ dX9_takesLifter_5 (fun H locs hW => ?_)
  refine lv_if_ne (tgt := 13) hx hb dX9_takesLifter_8 (by decide) (fun c3 => ?_) (fun c3 => ?_)
  · replace h := ite_f h c3
    refine lv_aload_n hx hb dX9_takesLifter_13 rfl (lv_at hl 0 rfl) ?_
    refine lv_aload_n hx hb dX9_takesLifter_14 rfl (lv_at hl 0 rfl) ?_
    refine wd_get hC i9 hW 0 wR_c0 rfl 21 (Nat.le_of_ble_eq_true rfl) f200 rfl rfl dX9_takesLifter_15 ?_
    refine wd_put hC i9 tyX9_ok nmX9 hW 0 wR_c0 rfl 22 (Nat.le_of_ble_eq_true rfl) f212 rfl rfl rfl rfl (Nat.le_of_ble_eq_true rfl) wR_s0_22 dX9_takesLifter_18 (fun H locs hW => ?_)
    obtain ⟨T4, e5, h⟩ := nm_of h
    replace hW := wq_T e5 hW
    refine lv_aload_n hx hb dX9_takesLifter_21 rfl (lv_at hl 0 rfl) ?_
    refine lv_bipush (v := 44) hx hb dX9_takesLifter_22 (by decide) ?_
    obtain ⟨r6, hr7, h⟩ := bd_of h
    refine wd_callV1 (As := [.int 44]) hC hW 0 wR_c0 rfl (c_X9_takes l D cy ad X T4 44 r6 hr7) (cwV 1 hts (gu_V w_10_14 w_10_11 w_10_12 w_10_13 w_1_5) rfl rfl rfl hdX9_takes ⟨Nat.le_of_ble_eq_true rfl, Nat.le_of_ble_eq_true rfl⟩) rfl hl.1 rfl (Nat.le_of_ble_eq_true rfl) ⟨Nat.zero_le _, Nat.zero_le _⟩ dX9_takesLifter_24 (fun H locs hW => ?_)
    refine lv_if_eq (tgt := 37) hx hb dX9_takesLifter_27 (by decide) (fun c8 => ?_) (fun c8 => ?_)
    · replace h := ite_t h c8
      refine lv_iconst (v := 0) hx hb dX9_takesLifter_37 (by decide) ?_
      obtain rfl := Option.some.inj h
      exact wd_zret hA hQ hC hr hk hW rfl dX9_takesLifter_38
    · replace h := ite_f h c8
      refine lv_aload_n hx hb dX9_takesLifter_30 rfl (lv_at hl 0 rfl) ?_
      obtain ⟨r9, hr10, h⟩ := bd_of h
      refine wd_callV1 (As := []) hC hW 0 wR_c0 rfl (c_X9_takesLot l D cy ad X n r6.2 r9 hr10) (cwV 0 hts (gu_V w_10_18 w_10_15 w_10_16 w_10_17 w_1_5) rfl rfl rfl hdX9_takesLot ⟨Nat.le_of_ble_eq_true rfl, Nat.le_of_ble_eq_true rfl⟩) rfl hl.1 rfl (Nat.le_of_ble_eq_true rfl) ⟨Nat.zero_le _, Nat.zero_le _⟩ dX9_takesLifter_31 (fun H locs hW => ?_)
      refine lv_if_ne (tgt := 39) hx hb dX9_takesLifter_34 (by decide) (fun c11 => ?_) (fun c11 => ?_)
      · replace h := ite_f h c11
        refine lv_aload_n hx hb dX9_takesLifter_39 rfl (lv_at hl 0 rfl) ?_
        refine lv_aload_n hx hb dX9_takesLifter_40 rfl (lv_at hl 0 rfl) ?_
        refine wd_get hC i9 hW 0 wR_c0 rfl 21 (Nat.le_of_ble_eq_true rfl) f200 rfl rfl dX9_takesLifter_41 ?_
        refine wd_put hC i9 tyX9_ok nmX9 hW 0 wR_c0 rfl 23 (Nat.le_of_ble_eq_true rfl) f218 rfl rfl rfl rfl (Nat.le_of_ble_eq_true rfl) wR_s0_23 dX9_takesLifter_44 (fun H locs hW => ?_)
        obtain ⟨T12, e13, h⟩ := nm_of h
        replace hW := wq_T e13 hW
        refine lv_iconst (v := 0) hx hb dX9_takesLifter_47 (by decide) ?_
        refine lv_istore_n (lv' := [(1, .int 0), (0, .ref (ad 0))]) hx hb dX9_takesLifter_48 rfl hl (by decide) rfl (fun ls hl => ?_)
        have hL49 : ∀ (n : Nat) (T : St) (x1 : Int32)  (H : Heap) (locs : List Loc) (ls : Array Slot), m_X9_takesLifter_L49 n T x1 = some r → Wd D cy A s (wR ad cy T ++ X) H locs → lv_has ls 2 [(0, .ref (ad 0)), (1, .int x1)] → W p l e (RM 5) s m args below meth c H locs 0 0 Q (F0 m 49 ls []) := by
          intro n
          induction n with
          | zero =>
            intro T x1  H locs ls h
            exact absurd (h.symm.trans (m_X9_takesLifter_L49_0 ..)) (by simp)
          | succ n ih =>
            intro T x1  H locs ls h hW hl
            rw [m_X9_takesLifter_L49_s] at h
            refine lv_iload_n hx hb dX9_takesLifter_49 rfl (lv_at hl 1 rfl) ?_
            refine lv_iconst (v := 3) hx hb dX9_takesLifter_50 (by decide) ?_
            refine lv_icmp_ge (tgt := 87) hx hb dX9_takesLifter_51 (by decide) (fun c14 => ?_) (fun c14 => ?_)
            · replace h := ite_t h c14
              refine lv_aload_n hx hb dX9_takesLifter_87 rfl (lv_at hl 0 rfl) ?_
              refine wd_get hC i9 hW 0 wR_c0 rfl 19 (Nat.le_of_ble_eq_true rfl) f187 rfl rfl dX9_takesLifter_88 ?_
              refine lv_aload_n hx hb dX9_takesLifter_91 rfl (lv_at hl 0 rfl) ?_
              refine wd_get hC i9 hW 0 wR_c0 rfl 20 (Nat.le_of_ble_eq_true rfl) f190 rfl rfl dX9_takesLifter_92 ?_
              refine lv_icmp_ne (tgt := 102) hx hb dX9_takesLifter_95 (by decide) (fun c15 => ?_) (fun c15 => ?_)
              · replace h := ite_f h c15
                refine lv_iconst (v := 0) hx hb dX9_takesLifter_102 (by decide) ?_
                obtain rfl := Option.some.inj h
                exact wd_zret hA hQ hC hr hk hW rfl dX9_takesLifter_103
              · replace h := ite_t h c15
                refine lv_iconst (v := 1) hx hb dX9_takesLifter_98 (by decide) ?_
                refine lv_goto (tgt := 103) hx hb dX9_takesLifter_99 (by decide) ?_
                obtain rfl := Option.some.inj h
                exact wd_zret hA hQ hC hr hk hW rfl dX9_takesLifter_103
            · replace h := ite_f h c14
              refine lv_aload_n hx hb dX9_takesLifter_54 rfl (lv_at hl 0 rfl) ?_
              refine lv_bipush (v := 59) hx hb dX9_takesLifter_55 (by decide) ?_
              obtain ⟨r16, hr17, h⟩ := bd_of h
              refine wd_callV1 (As := [.int 59]) hC hW 0 wR_c0 rfl (c_X9_takes l D cy ad X T 59 r16 hr17) (cwV 1 hts (gu_V w_10_14 w_10_11 w_10_12 w_10_13 w_1_5) rfl rfl rfl hdX9_takes ⟨Nat.le_of_ble_eq_true rfl, Nat.le_of_ble_eq_true rfl⟩) rfl hl.1 rfl (Nat.le_of_ble_eq_true rfl) ⟨Nat.zero_le _, Nat.zero_le _⟩ dX9_takesLifter_57 (fun H locs hW => ?_)
              refine lv_if_eq (tgt := 79) hx hb dX9_takesLifter_60 (by decide) (fun c18 => ?_) (fun c18 => ?_)
              · replace h := ite_t h c18
                refine lv_iconst (v := 0) hx hb dX9_takesLifter_79 (by decide) ?_
                obtain rfl := Option.some.inj h
                exact wd_zret hA hQ hC hr hk hW rfl dX9_takesLifter_80
              · replace h := ite_f h c18
                refine lv_aload_n hx hb dX9_takesLifter_63 rfl (lv_at hl 0 rfl) ?_
                refine lv_iload_n hx hb dX9_takesLifter_64 rfl (lv_at hl 1 rfl) ?_
                obtain ⟨r19, hr20, h⟩ := bd_of h
                refine wd_callV1 (As := [.int x1]) hC hW 0 wR_c0 rfl (c_X9_takesTable l D cy ad X n r16.2 x1 r19 hr20) (cwV 1 hts (gu_V w_10_22 w_10_19 w_10_20 w_10_21 w_1_5) rfl rfl rfl hdX9_takesTable ⟨Nat.le_of_ble_eq_true rfl, Nat.le_of_ble_eq_true rfl⟩) rfl hl.1 rfl (Nat.le_of_ble_eq_true rfl) ⟨Nat.zero_le _, Nat.zero_le _⟩ dX9_takesLifter_65 (fun H locs hW => ?_)
                refine lv_if_eq (tgt := 79) hx hb dX9_takesLifter_68 (by decide) (fun c21 => ?_) (fun c21 => ?_)
                · replace h := ite_t h c21
                  refine lv_iconst (v := 0) hx hb dX9_takesLifter_79 (by decide) ?_
                  obtain rfl := Option.some.inj h
                  exact wd_zret hA hQ hC hr hk hW rfl dX9_takesLifter_80
                · replace h := ite_f h c21
                  refine lv_aload_n hx hb dX9_takesLifter_71 rfl (lv_at hl 0 rfl) ?_
                  refine lv_iload_n hx hb dX9_takesLifter_72 rfl (lv_at hl 1 rfl) ?_
                  obtain ⟨r22, hr23, h⟩ := bd_of h
                  refine wd_callV1 (As := [.int x1]) hC hW 0 wR_c0 rfl (c_X9_takesPlan l D cy ad X n r19.2 x1 r22 hr23) (cwV 1 hts (gu_V w_11_2 w_10_23 w_11_0 w_11_1 w_1_5) rfl rfl rfl hdX9_takesPlan ⟨Nat.le_of_ble_eq_true rfl, Nat.le_of_ble_eq_true rfl⟩) rfl hl.1 rfl (Nat.le_of_ble_eq_true rfl) ⟨Nat.zero_le _, Nat.zero_le _⟩ dX9_takesLifter_73 (fun H locs hW => ?_)
                  refine lv_if_ne (tgt := 81) hx hb dX9_takesLifter_76 (by decide) (fun c24 => ?_) (fun c24 => ?_)
                  · replace h := ite_f h c24
                    refine lv_iinc (v := x1 + 1) (lv' := [(1, .int (x1 + 1)), (0, .ref (ad 0))]) hx hb dX9_takesLifter_81 hl (k := 1) rfl rfl (by decide) rfl (fun ls hl => ?_)
                    refine lv_goto (tgt := 49) hx hb dX9_takesLifter_84 (by decide) ?_
                    exact ih r22.2 (x1 + 1) _ _ _ h hW (lv_sub hl [1, 0] rfl)
                  · replace h := ite_t h c24
                    refine lv_iconst (v := 0) hx hb dX9_takesLifter_79 (by decide) ?_
                    obtain rfl := Option.some.inj h
                    exact wd_zret hA hQ hC hr hk hW rfl dX9_takesLifter_80
        exact hL49 n T12 0  _ _ _ h hW (lv_sub hl [1, 0] rfl)
      · replace h := ite_t h c11
        refine lv_iconst (v := 0) hx hb dX9_takesLifter_37 (by decide) ?_
        obtain rfl := Option.some.inj h
        exact wd_zret hA hQ hC hr hk hW rfl dX9_takesLifter_38
  · replace h := ite_t h c3
    refine lv_iconst (v := 0) hx hb dX9_takesLifter_11 (by decide) ?_
    obtain rfl := Option.some.inj h
    exact wd_zret hA hQ hC hr hk hW rfl dX9_takesLifter_12
def m_X9_enters_L104 : Nat → St → Int32 → Int32 → Option (St)
  | 0, _, _, _ => none
  | n + 1, T, x1, x2 =>
    if 6 ≤ x2 then (some T) else (ck ((6 * x1) + x2) 18 (ck ((6 * ((3 * (T.1 3)) + x1)) + x2) 108 (nm (sA T 7 ((6 * ((3 * (T.1 3)) + x1)) + x2).toNatClampNeg (T.2.1 25 ((6 * x1) + x2).toNatClampNeg)) (fun T31 => ck ((6 * x1) + x2) 18 (ck ((6 * ((3 * (T31.1 3)) + x1)) + x2) 108 (nm (sA T31 8 ((6 * ((3 * (T31.1 3)) + x1)) + x2).toNatClampNeg (T31.2.1 26 ((6 * x1) + x2).toNatClampNeg)) (fun T35 => m_X9_enters_L104 n T35 x1 (x2 + 1))))))))
theorem m_X9_enters_L104_0 (T : St) (x1 : Int32) (x2 : Int32) : m_X9_enters_L104 0 T x1 x2 = none := rfl
theorem m_X9_enters_L104_s {n : Nat} {T : St} {x1 : Int32} {x2 : Int32} : m_X9_enters_L104 (n + 1) T x1 x2 =
    (if 6 ≤ x2 then (some T) else (ck ((6 * x1) + x2) 18 (ck ((6 * ((3 * (T.1 3)) + x1)) + x2) 108 (nm (sA T 7 ((6 * ((3 * (T.1 3)) + x1)) + x2).toNatClampNeg (T.2.1 25 ((6 * x1) + x2).toNatClampNeg)) (fun T31 => ck ((6 * x1) + x2) 18 (ck ((6 * ((3 * (T31.1 3)) + x1)) + x2) 108 (nm (sA T31 8 ((6 * ((3 * (T31.1 3)) + x1)) + x2).toNatClampNeg (T31.2.1 26 ((6 * x1) + x2).toNatClampNeg)) (fun T35 => m_X9_enters_L104 n T35 x1 (x2 + 1))))))))) := rfl
def m_X9_enters_L176 : Nat → St → Int32 → Int32 → Option (St)
  | 0, _, _, _ => none
  | n + 1, T, x1, x2 =>
    if 3 ≤ x2 then (some T) else (ck ((3 * x1) + x2) 9 (ck ((3 * ((3 * (T.1 3)) + x1)) + x2) 54 (nm (sA T 9 ((3 * ((3 * (T.1 3)) + x1)) + x2).toNatClampNeg (T.2.1 27 ((3 * x1) + x2).toNatClampNeg)) (fun T42 => m_X9_enters_L176 n T42 x1 (x2 + 1)))))
theorem m_X9_enters_L176_0 (T : St) (x1 : Int32) (x2 : Int32) : m_X9_enters_L176 0 T x1 x2 = none := rfl
theorem m_X9_enters_L176_s {n : Nat} {T : St} {x1 : Int32} {x2 : Int32} : m_X9_enters_L176 (n + 1) T x1 x2 =
    (if 3 ≤ x2 then (some T) else (ck ((3 * x1) + x2) 9 (ck ((3 * ((3 * (T.1 3)) + x1)) + x2) 54 (nm (sA T 9 ((3 * ((3 * (T.1 3)) + x1)) + x2).toNatClampNeg (T.2.1 27 ((3 * x1) + x2).toNatClampNeg)) (fun T42 => m_X9_enters_L176 n T42 x1 (x2 + 1)))))) := rfl
def m_X9_enters_L78 : Nat → St → Int32 → Option (St)
  | 0, _, _ => none
  | n + 1, T, x1 =>
    if 3 ≤ x1 then (some T) else (ck x1 3 (ck ((3 * (T.1 3)) + x1) 18 (nm (sA T 6 ((3 * (T.1 3)) + x1).toNatClampNeg (T.2.1 24 x1.toNatClampNeg)) (fun T24 => (m_X9_enters_L104 n T24 x1 0).bind (fun q26 => (m_X9_enters_L176 n q26 x1 0).bind (fun q37 => m_X9_enters_L78 n q37 (x1 + 1)))))))
theorem m_X9_enters_L78_0 (T : St) (x1 : Int32) : m_X9_enters_L78 0 T x1 = none := rfl
theorem m_X9_enters_L78_s {n : Nat} {T : St} {x1 : Int32} : m_X9_enters_L78 (n + 1) T x1 =
    (if 3 ≤ x1 then (some T) else (ck x1 3 (ck ((3 * (T.1 3)) + x1) 18 (nm (sA T 6 ((3 * (T.1 3)) + x1).toNatClampNeg (T.2.1 24 x1.toNatClampNeg)) (fun T24 => (m_X9_enters_L104 n T24 x1 0).bind (fun q26 => (m_X9_enters_L176 n q26 x1 0).bind (fun q37 => m_X9_enters_L78 n q37 (x1 + 1)))))))) := rfl
def m_X9_enters (n : Nat) (T : St) : Option (Int32 × St) :=
  nm (sI T 0 0) (fun T1 => nm (sI T1 20 (T1.1 18)) (fun T3 => nm (sI T3 18 0) (fun T5 => nm (sI T5 19 0) (fun T7 => (m_X9_takesLifter n T7).bind (fun r9 => if r9.1 = 0 then (some ((-21) - (r9.2.1 19), r9.2)) else (if (r9.2.1 3) = 6 then (some ((-2), r9.2)) else (ck (r9.2.1 3) 6 (nm (sA r9.2 4 (r9.2.1 3).toNatClampNeg (r9.2.1 22)) (fun T14 => ck (T14.1 3) 6 (nm (sA T14 5 (T14.1 3).toNatClampNeg (T14.1 23)) (fun T17 => (m_X9_enters_L78 n T17 0).bind (fun q19 => nm (sI q19 3 ((q19.1 3) + 1)) (fun T44 => (m_X9_meetBegins n T44).bind (fun r46 => some ((r46.1 3) - 1, r46)))))))))))))))
set_option maxHeartbeats 4000000 in
set_option maxRecDepth 100000 in
theorem c_X9_enters (l : Launch) (D : va_G) (cy : Nat → ClassId) (ad : Nat → Nat) (X : va_W) (n : Nat) (T : St) (r : (Int32 × St)) (h : m_X9_enters n T = some r) : CT l yX9_enters (wu yX9_enters cX9_enters 3 (some .int)) 6 D cy [.ref (ad 0)] (wR ad cy T ++ X) (some (.int r.1)) (wR ad cy r.2 ++ X) := by
  refine CT.mk (cc := cX9_enters) (maxL := 3) (ret := (some .int)) (own := RX9) (by decide) rfl rfl (Nat.le_of_ble_eq_true rfl) ?_
  intro p e s m args below meth c ls A Q hA hQ hC hr hk hW hl
  have hx := hC.1
  have hb := hC.2.1
  have hown := hC.2.2.2.1
  have hts := hC.2.2.2.2
  have hl : lv_has ls 3 [(0, .ref (ad 0))] := hl
  have f77 := hts _ (wu_in w_6_14)
  have i9 := (fun w h => wu_in (inc_9 w h) : ∀ w ∈ u_ws RX9 TX9 40, w ∈ (wu yX9_enters cX9_enters 3 (some .int)))
  have f184 := hts _ (wu_in w_6_15)
  have f190 := hts _ (wu_in w_9_11)
  have f187 := hts _ (wu_in w_9_12)
  have f84 := hts _ (wu_in w_9_13)
  have f13 := hts _ (wu_in w_5_4)
  have f212 := hts _ (wu_in w_9_14)
  have f17 := hts _ (wu_in w_5_5)
  have f218 := hts _ (wu_in w_9_15)
  have f20 := hts _ (wu_in w_5_6)
  have f44 := hts _ (wu_in w_5_14)
  have f23 := hts _ (wu_in w_5_7)
  have f47 := hts _ (wu_in w_5_15)
  have f26 := hts _ (wu_in w_5_8)
  have f50 := hts _ (wu_in w_5_16)
  have f29 := hts _ (wu_in w_5_9)
  have f53 := hts _ (wu_in w_5_17)
  unfold m_X9_enters at h
  refine lv_aload_n hx hb dX9_enters_0 rfl (lv_at hl 0 rfl) ?_
  refine lv_iconst (v := 0) hx hb dX9_enters_1 (by decide) ?_
  refine wd_put hC i9 tyX9_ok nmX9 hW 0 wR_c0 rfl 0 (Nat.le_of_ble_eq_true rfl) f77 rfl rfl rfl rfl (Nat.le_of_ble_eq_true rfl) wR_s0_0 dX9_enters_2 (fun H locs hW => ?_)
  obtain ⟨T1, e2, h⟩ := nm_of h
  replace hW := wq_T e2 hW
  refine lv_aload_n hx hb dX9_enters_5 rfl (lv_at hl 0 rfl) ?_
  refine lv_aload_n hx hb dX9_enters_6 rfl (lv_at hl 0 rfl) ?_
  refine wd_get hC i9 hW 0 wR_c0 rfl 18 (Nat.le_of_ble_eq_true rfl) f184 rfl rfl dX9_enters_7 ?_
  refine wd_put hC i9 tyX9_ok nmX9 hW 0 wR_c0 rfl 20 (Nat.le_of_ble_eq_true rfl) f190 rfl rfl rfl rfl (Nat.le_of_ble_eq_true rfl) wR_s0_20 dX9_enters_10 (fun H locs hW => ?_)
  obtain ⟨T3, e4, h⟩ := nm_of h
  replace hW := wq_T e4 hW
  refine lv_aload_n hx hb dX9_enters_13 rfl (lv_at hl 0 rfl) ?_
  refine lv_iconst (v := 0) hx hb dX9_enters_14 (by decide) ?_
  refine wd_put hC i9 tyX9_ok nmX9 hW 0 wR_c0 rfl 18 (Nat.le_of_ble_eq_true rfl) f184 rfl rfl rfl rfl (Nat.le_of_ble_eq_true rfl) wR_s0_18 dX9_enters_15 (fun H locs hW => ?_)
  obtain ⟨T5, e6, h⟩ := nm_of h
  replace hW := wq_T e6 hW
  refine lv_aload_n hx hb dX9_enters_18 rfl (lv_at hl 0 rfl) ?_
  refine lv_iconst (v := 0) hx hb dX9_enters_19 (by decide) ?_
  refine wd_put hC i9 tyX9_ok nmX9 hW 0 wR_c0 rfl 19 (Nat.le_of_ble_eq_true rfl) f187 rfl rfl rfl rfl (Nat.le_of_ble_eq_true rfl) wR_s0_19 dX9_enters_20 (fun H locs hW => ?_)
  obtain ⟨T7, e8, h⟩ := nm_of h
  replace hW := wq_T e8 hW
  refine lv_aload_n hx hb dX9_enters_23 rfl (lv_at hl 0 rfl) ?_
  obtain ⟨r9, hr10, h⟩ := bd_of h
  refine wd_callV1 (As := []) hC hW 0 wR_c0 rfl (c_X9_takesLifter l D cy ad X n T7 r9 hr10) (cwV 0 hts (gu_V w_9_19 w_9_16 w_9_17 w_9_18 w_1_5) rfl rfl rfl hdX9_takesLifter ⟨Nat.le_of_ble_eq_true rfl, Nat.le_of_ble_eq_true rfl⟩) rfl hl.1 rfl (Nat.le_of_ble_eq_true rfl) ⟨Nat.zero_le _, Nat.zero_le _⟩ dX9_enters_24 (fun H locs hW => ?_)
  refine lv_if_ne (tgt := 38) hx hb dX9_enters_27 (by decide) (fun c11 => ?_) (fun c11 => ?_)
  · replace h := ite_f h c11
    refine lv_aload_n hx hb dX9_enters_38 rfl (lv_at hl 0 rfl) ?_
    refine wd_get hC i9 hW 0 wR_c0 rfl 3 (Nat.le_of_ble_eq_true rfl) f84 rfl rfl dX9_enters_39 ?_
    refine lv_bipush (v := 6) hx hb dX9_enters_42 (by decide) ?_
    refine lv_icmp_ne (tgt := 50) hx hb dX9_enters_44 (by decide) (fun c12 => ?_) (fun c12 => ?_)
    · replace h := ite_f h c12
      refine lv_aload_n hx hb dX9_enters_50 rfl (lv_at hl 0 rfl) ?_
      refine wd_get hC i9 hW 0 wR_c0 rfl 4 (Nat.le_of_ble_eq_true rfl) f13 rfl rfl dX9_enters_51 ?_
      refine lv_aload_n hx hb dX9_enters_54 rfl (lv_at hl 0 rfl) ?_
      refine wd_get hC i9 hW 0 wR_c0 rfl 3 (Nat.le_of_ble_eq_true rfl) f84 rfl rfl dX9_enters_55 ?_
      refine lv_aload_n hx hb dX9_enters_58 rfl (lv_at hl 0 rfl) ?_
      refine wd_get hC i9 hW 0 wR_c0 rfl 22 (Nat.le_of_ble_eq_true rfl) f212 rfl rfl dX9_enters_59 ?_
      obtain ⟨hi13, h⟩ := ck_of h
      refine wd_iast hC hW 2 wR_c2 hi13 wR_t2 dX9_enters_62 (fun H locs hW => ?_)
      obtain ⟨T14, e15, h⟩ := nm_of h
      replace hW := wq_T e15 hW
      refine lv_aload_n hx hb dX9_enters_63 rfl (lv_at hl 0 rfl) ?_
      refine wd_get hC i9 hW 0 wR_c0 rfl 5 (Nat.le_of_ble_eq_true rfl) f17 rfl rfl dX9_enters_64 ?_
      refine lv_aload_n hx hb dX9_enters_67 rfl (lv_at hl 0 rfl) ?_
      refine wd_get hC i9 hW 0 wR_c0 rfl 3 (Nat.le_of_ble_eq_true rfl) f84 rfl rfl dX9_enters_68 ?_
      refine lv_aload_n hx hb dX9_enters_71 rfl (lv_at hl 0 rfl) ?_
      refine wd_get hC i9 hW 0 wR_c0 rfl 23 (Nat.le_of_ble_eq_true rfl) f218 rfl rfl dX9_enters_72 ?_
      obtain ⟨hi16, h⟩ := ck_of h
      refine wd_iast hC hW 3 wR_c3 hi16 wR_t3 dX9_enters_75 (fun H locs hW => ?_)
      obtain ⟨T17, e18, h⟩ := nm_of h
      replace hW := wq_T e18 hW
      refine lv_iconst (v := 0) hx hb dX9_enters_76 (by decide) ?_
      refine lv_istore_n (lv' := [(1, .int 0), (0, .ref (ad 0))]) hx hb dX9_enters_77 rfl hl (by decide) rfl (fun ls hl => ?_)
      have hL78 : ∀ (n : Nat) (T : St) (x1 : Int32)  (H : Heap) (locs : List Loc) (ls : Array Slot) (r : (St)), m_X9_enters_L78 n T x1 = some r → Wd D cy A s (wR ad cy T ++ X) H locs → lv_has ls 3 [(0, .ref (ad 0)), (1, .int x1)] → (∀ (H : Heap) (locs : List Loc) (ls : Array Slot), Wd D cy A s (wR ad cy r ++ X) H locs → lv_has ls 3 [(0, .ref (ad 0))] → W p l e (RM 6) s m args below meth c H locs 0 0 Q (F0 m 220 ls [])) → W p l e (RM 6) s m args below meth c H locs 0 0 Q (F0 m 78 ls []) := by
        intro n
        induction n with
        | zero =>
          intro T x1  H locs ls r h
          exact absurd (h.symm.trans (m_X9_enters_L78_0 ..)) (by simp)
        | succ n ih =>
          intro T x1  H locs ls r h hW hl kk
          rw [m_X9_enters_L78_s] at h
          refine lv_iload_n hx hb dX9_enters_78 rfl (lv_at hl 1 rfl) ?_
          refine lv_iconst (v := 3) hx hb dX9_enters_79 (by decide) ?_
          refine lv_icmp_ge (tgt := 220) hx hb dX9_enters_80 (by decide) (fun c21 => ?_) (fun c21 => ?_)
          · replace h := ite_t h c21
            obtain rfl := Option.some.inj h
            exact kk _ _ _ hW (lv_sub hl [0] rfl)
          · replace h := ite_f h c21
            refine lv_aload_n hx hb dX9_enters_83 rfl (lv_at hl 0 rfl) ?_
            refine wd_get hC i9 hW 0 wR_c0 rfl 6 (Nat.le_of_ble_eq_true rfl) f20 rfl rfl dX9_enters_84 ?_
            refine lv_iconst (v := 3) hx hb dX9_enters_87 (by decide) ?_
            refine lv_aload_n hx hb dX9_enters_88 rfl (lv_at hl 0 rfl) ?_
            refine wd_get hC i9 hW 0 wR_c0 rfl 3 (Nat.le_of_ble_eq_true rfl) f84 rfl rfl dX9_enters_89 ?_
            refine lv_imul hx hb dX9_enters_92 ?_
            refine lv_iload_n hx hb dX9_enters_93 rfl (lv_at hl 1 rfl) ?_
            refine lv_iadd hx hb dX9_enters_94 ?_
            refine lv_aload_n hx hb dX9_enters_95 rfl (lv_at hl 0 rfl) ?_
            refine wd_get hC i9 hW 0 wR_c0 rfl 24 (Nat.le_of_ble_eq_true rfl) f44 rfl rfl dX9_enters_96 ?_
            refine lv_iload_n hx hb dX9_enters_99 rfl (lv_at hl 1 rfl) ?_
            obtain ⟨hi22, h⟩ := ck_of h
            refine wd_iald hC hW 12 wR_c12 hi22 dX9_enters_100 ?_
            obtain ⟨hi23, h⟩ := ck_of h
            refine wd_iast hC hW 4 wR_c4 hi23 wR_t4 dX9_enters_101 (fun H locs hW => ?_)
            obtain ⟨T24, e25, h⟩ := nm_of h
            replace hW := wq_T e25 hW
            refine lv_iconst (v := 0) hx hb dX9_enters_102 (by decide) ?_
            refine lv_istore_n (lv' := [(2, .int 0), (0, .ref (ad 0)), (1, .int x1)]) hx hb dX9_enters_103 rfl hl (by decide) rfl (fun ls hl => ?_)
            have hL104 : ∀ (n : Nat) (T : St) (x1 : Int32) (x2 : Int32)  (H : Heap) (locs : List Loc) (ls : Array Slot) (r : (St)), m_X9_enters_L104 n T x1 x2 = some r → Wd D cy A s (wR ad cy T ++ X) H locs → lv_has ls 3 [(0, .ref (ad 0)), (1, .int x1), (2, .int x2)] → (∀ (H : Heap) (locs : List Loc) (ls : Array Slot), Wd D cy A s (wR ad cy r ++ X) H locs → lv_has ls 3 [(0, .ref (ad 0)), (1, .int x1)] → W p l e (RM 6) s m args below meth c H locs 0 0 Q (F0 m 174 ls [])) → W p l e (RM 6) s m args below meth c H locs 0 0 Q (F0 m 104 ls []) := by
              intro n
              induction n with
              | zero =>
                intro T x1 x2  H locs ls r h
                exact absurd (h.symm.trans (m_X9_enters_L104_0 ..)) (by simp)
              | succ n ih =>
                intro T x1 x2  H locs ls r h hW hl kk
                rw [m_X9_enters_L104_s] at h
                refine lv_iload_n hx hb dX9_enters_104 rfl (lv_at hl 2 rfl) ?_
                refine lv_bipush (v := 6) hx hb dX9_enters_105 (by decide) ?_
                refine lv_icmp_ge (tgt := 174) hx hb dX9_enters_107 (by decide) (fun c28 => ?_) (fun c28 => ?_)
                · replace h := ite_t h c28
                  obtain rfl := Option.some.inj h
                  exact kk _ _ _ hW (lv_sub hl [0, 1] rfl)
                · replace h := ite_f h c28
                  refine lv_aload_n hx hb dX9_enters_110 rfl (lv_at hl 0 rfl) ?_
                  refine wd_get hC i9 hW 0 wR_c0 rfl 7 (Nat.le_of_ble_eq_true rfl) f23 rfl rfl dX9_enters_111 ?_
                  refine lv_bipush (v := 6) hx hb dX9_enters_114 (by decide) ?_
                  refine lv_iconst (v := 3) hx hb dX9_enters_116 (by decide) ?_
                  refine lv_aload_n hx hb dX9_enters_117 rfl (lv_at hl 0 rfl) ?_
                  refine wd_get hC i9 hW 0 wR_c0 rfl 3 (Nat.le_of_ble_eq_true rfl) f84 rfl rfl dX9_enters_118 ?_
                  refine lv_imul hx hb dX9_enters_121 ?_
                  refine lv_iload_n hx hb dX9_enters_122 rfl (lv_at hl 1 rfl) ?_
                  refine lv_iadd hx hb dX9_enters_123 ?_
                  refine lv_imul hx hb dX9_enters_124 ?_
                  refine lv_iload_n hx hb dX9_enters_125 rfl (lv_at hl 2 rfl) ?_
                  refine lv_iadd hx hb dX9_enters_126 ?_
                  refine lv_aload_n hx hb dX9_enters_127 rfl (lv_at hl 0 rfl) ?_
                  refine wd_get hC i9 hW 0 wR_c0 rfl 25 (Nat.le_of_ble_eq_true rfl) f47 rfl rfl dX9_enters_128 ?_
                  refine lv_bipush (v := 6) hx hb dX9_enters_131 (by decide) ?_
                  refine lv_iload_n hx hb dX9_enters_133 rfl (lv_at hl 1 rfl) ?_
                  refine lv_imul hx hb dX9_enters_134 ?_
                  refine lv_iload_n hx hb dX9_enters_135 rfl (lv_at hl 2 rfl) ?_
                  refine lv_iadd hx hb dX9_enters_136 ?_
                  obtain ⟨hi29, h⟩ := ck_of h
                  refine wd_iald hC hW 13 wR_c13 hi29 dX9_enters_137 ?_
                  obtain ⟨hi30, h⟩ := ck_of h
                  refine wd_iast hC hW 5 wR_c5 hi30 wR_t5 dX9_enters_138 (fun H locs hW => ?_)
                  obtain ⟨T31, e32, h⟩ := nm_of h
                  replace hW := wq_T e32 hW
                  refine lv_aload_n hx hb dX9_enters_139 rfl (lv_at hl 0 rfl) ?_
                  refine wd_get hC i9 hW 0 wR_c0 rfl 8 (Nat.le_of_ble_eq_true rfl) f26 rfl rfl dX9_enters_140 ?_
                  refine lv_bipush (v := 6) hx hb dX9_enters_143 (by decide) ?_
                  refine lv_iconst (v := 3) hx hb dX9_enters_145 (by decide) ?_
                  refine lv_aload_n hx hb dX9_enters_146 rfl (lv_at hl 0 rfl) ?_
                  refine wd_get hC i9 hW 0 wR_c0 rfl 3 (Nat.le_of_ble_eq_true rfl) f84 rfl rfl dX9_enters_147 ?_
                  refine lv_imul hx hb dX9_enters_150 ?_
                  refine lv_iload_n hx hb dX9_enters_151 rfl (lv_at hl 1 rfl) ?_
                  refine lv_iadd hx hb dX9_enters_152 ?_
                  refine lv_imul hx hb dX9_enters_153 ?_
                  refine lv_iload_n hx hb dX9_enters_154 rfl (lv_at hl 2 rfl) ?_
                  refine lv_iadd hx hb dX9_enters_155 ?_
                  refine lv_aload_n hx hb dX9_enters_156 rfl (lv_at hl 0 rfl) ?_
                  refine wd_get hC i9 hW 0 wR_c0 rfl 26 (Nat.le_of_ble_eq_true rfl) f50 rfl rfl dX9_enters_157 ?_
                  refine lv_bipush (v := 6) hx hb dX9_enters_160 (by decide) ?_
                  refine lv_iload_n hx hb dX9_enters_162 rfl (lv_at hl 1 rfl) ?_
                  refine lv_imul hx hb dX9_enters_163 ?_
                  refine lv_iload_n hx hb dX9_enters_164 rfl (lv_at hl 2 rfl) ?_
                  refine lv_iadd hx hb dX9_enters_165 ?_
                  obtain ⟨hi33, h⟩ := ck_of h
                  refine wd_iald hC hW 14 wR_c14 hi33 dX9_enters_166 ?_
                  obtain ⟨hi34, h⟩ := ck_of h
                  refine wd_iast hC hW 6 wR_c6 hi34 wR_t6 dX9_enters_167 (fun H locs hW => ?_)
                  obtain ⟨T35, e36, h⟩ := nm_of h
                  replace hW := wq_T e36 hW
                  refine lv_iinc (v := x2 + 1) (lv' := [(2, .int (x2 + 1)), (0, .ref (ad 0)), (1, .int x1)]) hx hb dX9_enters_168 hl (k := 2) rfl rfl (by decide) rfl (fun ls hl => ?_)
                  refine lv_goto (tgt := 104) hx hb dX9_enters_171 (by decide) ?_
                  exact ih T35 x1 (x2 + 1) _ _ _ r h hW (lv_sub hl [1, 2, 0] rfl) kk
            obtain ⟨q26, hq27, h⟩ := bd_of h
            refine hL104 n T24 x1 0  _ _ _ q26 hq27 hW (lv_sub hl [1, 2, 0] rfl) (fun H locs ls hW hl => ?_)
            refine lv_iconst (v := 0) hx hb dX9_enters_174 (by decide) ?_
            refine lv_istore_n (lv' := [(2, .int 0), (0, .ref (ad 0)), (1, .int x1)]) hx hb dX9_enters_175 rfl hl (by decide) rfl (fun ls hl => ?_)
            have hL176 : ∀ (n : Nat) (T : St) (x1 : Int32) (x2 : Int32)  (H : Heap) (locs : List Loc) (ls : Array Slot) (r : (St)), m_X9_enters_L176 n T x1 x2 = some r → Wd D cy A s (wR ad cy T ++ X) H locs → lv_has ls 3 [(0, .ref (ad 0)), (1, .int x1), (2, .int x2)] → (∀ (H : Heap) (locs : List Loc) (ls : Array Slot), Wd D cy A s (wR ad cy r ++ X) H locs → lv_has ls 3 [(0, .ref (ad 0)), (1, .int x1)] → W p l e (RM 6) s m args below meth c H locs 0 0 Q (F0 m 214 ls [])) → W p l e (RM 6) s m args below meth c H locs 0 0 Q (F0 m 176 ls []) := by
              intro n
              induction n with
              | zero =>
                intro T x1 x2  H locs ls r h
                exact absurd (h.symm.trans (m_X9_enters_L176_0 ..)) (by simp)
              | succ n ih =>
                intro T x1 x2  H locs ls r h hW hl kk
                rw [m_X9_enters_L176_s] at h
                refine lv_iload_n hx hb dX9_enters_176 rfl (lv_at hl 2 rfl) ?_
                refine lv_iconst (v := 3) hx hb dX9_enters_177 (by decide) ?_
                refine lv_icmp_ge (tgt := 214) hx hb dX9_enters_178 (by decide) (fun c39 => ?_) (fun c39 => ?_)
                · replace h := ite_t h c39
                  obtain rfl := Option.some.inj h
                  exact kk _ _ _ hW (lv_sub hl [0, 1] rfl)
                · replace h := ite_f h c39
                  refine lv_aload_n hx hb dX9_enters_181 rfl (lv_at hl 0 rfl) ?_
                  refine wd_get hC i9 hW 0 wR_c0 rfl 9 (Nat.le_of_ble_eq_true rfl) f29 rfl rfl dX9_enters_182 ?_
                  refine lv_iconst (v := 3) hx hb dX9_enters_185 (by decide) ?_
                  refine lv_iconst (v := 3) hx hb dX9_enters_186 (by decide) ?_
                  refine lv_aload_n hx hb dX9_enters_187 rfl (lv_at hl 0 rfl) ?_
                  refine wd_get hC i9 hW 0 wR_c0 rfl 3 (Nat.le_of_ble_eq_true rfl) f84 rfl rfl dX9_enters_188 ?_
                  refine lv_imul hx hb dX9_enters_191 ?_
                  refine lv_iload_n hx hb dX9_enters_192 rfl (lv_at hl 1 rfl) ?_
                  refine lv_iadd hx hb dX9_enters_193 ?_
                  refine lv_imul hx hb dX9_enters_194 ?_
                  refine lv_iload_n hx hb dX9_enters_195 rfl (lv_at hl 2 rfl) ?_
                  refine lv_iadd hx hb dX9_enters_196 ?_
                  refine lv_aload_n hx hb dX9_enters_197 rfl (lv_at hl 0 rfl) ?_
                  refine wd_get hC i9 hW 0 wR_c0 rfl 27 (Nat.le_of_ble_eq_true rfl) f53 rfl rfl dX9_enters_198 ?_
                  refine lv_iconst (v := 3) hx hb dX9_enters_201 (by decide) ?_
                  refine lv_iload_n hx hb dX9_enters_202 rfl (lv_at hl 1 rfl) ?_
                  refine lv_imul hx hb dX9_enters_203 ?_
                  refine lv_iload_n hx hb dX9_enters_204 rfl (lv_at hl 2 rfl) ?_
                  refine lv_iadd hx hb dX9_enters_205 ?_
                  obtain ⟨hi40, h⟩ := ck_of h
                  refine wd_iald hC hW 15 wR_c15 hi40 dX9_enters_206 ?_
                  obtain ⟨hi41, h⟩ := ck_of h
                  refine wd_iast hC hW 7 wR_c7 hi41 wR_t7 dX9_enters_207 (fun H locs hW => ?_)
                  obtain ⟨T42, e43, h⟩ := nm_of h
                  replace hW := wq_T e43 hW
                  refine lv_iinc (v := x2 + 1) (lv' := [(2, .int (x2 + 1)), (0, .ref (ad 0)), (1, .int x1)]) hx hb dX9_enters_208 hl (k := 2) rfl rfl (by decide) rfl (fun ls hl => ?_)
                  refine lv_goto (tgt := 176) hx hb dX9_enters_211 (by decide) ?_
                  exact ih T42 x1 (x2 + 1) _ _ _ r h hW (lv_sub hl [1, 2, 0] rfl) kk
            obtain ⟨q37, hq38, h⟩ := bd_of h
            refine hL176 n q26 x1 0  _ _ _ q37 hq38 hW (lv_sub hl [1, 2, 0] rfl) (fun H locs ls hW hl => ?_)
            refine lv_iinc (v := x1 + 1) (lv' := [(1, .int (x1 + 1)), (0, .ref (ad 0))]) hx hb dX9_enters_214 hl (k := 1) rfl rfl (by decide) rfl (fun ls hl => ?_)
            refine lv_goto (tgt := 78) hx hb dX9_enters_217 (by decide) ?_
            exact ih q37 (x1 + 1) _ _ _ r h hW (lv_sub hl [1, 0] rfl) kk
      obtain ⟨q19, hq20, h⟩ := bd_of h
      refine hL78 n T17 0  _ _ _ q19 hq20 hW (lv_sub hl [1, 0] rfl) (fun H locs ls hW hl => ?_)
      refine lv_aload_n hx hb dX9_enters_220 rfl (lv_at hl 0 rfl) ?_
      refine lv_dup hx hb dX9_enters_221 rfl ?_
      refine wd_get hC i9 hW 0 wR_c0 rfl 3 (Nat.le_of_ble_eq_true rfl) f84 rfl rfl dX9_enters_222 ?_
      refine lv_iconst (v := 1) hx hb dX9_enters_225 (by decide) ?_
      refine lv_iadd hx hb dX9_enters_226 ?_
      refine wd_put hC i9 tyX9_ok nmX9 hW 0 wR_c0 rfl 3 (Nat.le_of_ble_eq_true rfl) f84 rfl rfl rfl rfl (Nat.le_of_ble_eq_true rfl) wR_s0_3 dX9_enters_227 (fun H locs hW => ?_)
      obtain ⟨T44, e45, h⟩ := nm_of h
      replace hW := wq_T e45 hW
      refine lv_aload_n hx hb dX9_enters_230 rfl (lv_at hl 0 rfl) ?_
      obtain ⟨r46, hr47, h⟩ := bd_of h
      refine wd_callV0 (As := []) hC hW 0 wR_c0 rfl (c_X9_meetBegins l D cy ad X n T44 r46 hr47) (cwV 0 hts (gu_V w_11_6 w_11_3 w_11_4 w_11_5 w_1_5) rfl rfl rfl hdX9_meetBegins ⟨Nat.le_of_ble_eq_true rfl, Nat.le_of_ble_eq_true rfl⟩) rfl hl.1 rfl (Nat.le_of_ble_eq_true rfl) ⟨Nat.zero_le _, Nat.zero_le _⟩ dX9_enters_231 (fun H locs hW => ?_)
      refine lv_aload_n hx hb dX9_enters_234 rfl (lv_at hl 0 rfl) ?_
      refine wd_get hC i9 hW 0 wR_c0 rfl 3 (Nat.le_of_ble_eq_true rfl) f84 rfl rfl dX9_enters_235 ?_
      refine lv_iconst (v := 1) hx hb dX9_enters_238 (by decide) ?_
      refine lv_isub hx hb dX9_enters_239 ?_
      obtain rfl := Option.some.inj h
      exact wd_iret hA hQ hC hr hk hW dX9_enters_240
    · replace h := ite_t h c12
      refine lv_bipush (v := (-2)) hx hb dX9_enters_47 (by decide) ?_
      obtain rfl := Option.some.inj h
      exact wd_iret hA hQ hC hr hk hW dX9_enters_49
  · replace h := ite_t h c11
    refine lv_bipush (v := (-21)) hx hb dX9_enters_30 (by decide) ?_
    refine lv_aload_n hx hb dX9_enters_32 rfl (lv_at hl 0 rfl) ?_
    refine wd_get hC i9 hW 0 wR_c0 rfl 19 (Nat.le_of_ble_eq_true rfl) f187 rfl rfl dX9_enters_33 ?_
    refine lv_isub hx hb dX9_enters_36 ?_
    obtain rfl := Option.some.inj h
    exact wd_iret hA hQ hC hr hk hW dX9_enters_37
def m_X9_leaves (n : Nat) (T : St) : Option (Int32 × St) :=
  nm (sI T 0 0) (fun T1 => if (T1.1 3) = 0 then (some ((-2), T1)) else (nm (sI T1 3 ((T1.1 3) - 1)) (fun T4 => (m_X9_meetBegins n T4).bind (fun r6 => some (r6.1 3, r6)))))
set_option maxHeartbeats 4000000 in
set_option maxRecDepth 100000 in
theorem c_X9_leaves (l : Launch) (D : va_G) (cy : Nat → ClassId) (ad : Nat → Nat) (X : va_W) (n : Nat) (T : St) (r : (Int32 × St)) (h : m_X9_leaves n T = some r) : CT l yX9_leaves (wu yX9_leaves cX9_leaves 1 (some .int)) 4 D cy [.ref (ad 0)] (wR ad cy T ++ X) (some (.int r.1)) (wR ad cy r.2 ++ X) := by
  refine CT.mk (cc := cX9_leaves) (maxL := 1) (ret := (some .int)) (own := RX9) (by decide) rfl rfl (Nat.le_of_ble_eq_true rfl) ?_
  intro p e s m args below meth c ls A Q hA hQ hC hr hk hW hl
  have hx := hC.1
  have hb := hC.2.1
  have hown := hC.2.2.2.1
  have hts := hC.2.2.2.2
  have hl : lv_has ls 1 [(0, .ref (ad 0))] := hl
  have f77 := hts _ (wu_in w_6_14)
  have i9 := (fun w h => wu_in (inc_9 w h) : ∀ w ∈ u_ws RX9 TX9 40, w ∈ (wu yX9_leaves cX9_leaves 1 (some .int)))
  have f84 := hts _ (wu_in w_9_13)
  unfold m_X9_leaves at h
  refine lv_aload_n hx hb dX9_leaves_0 rfl (lv_at hl 0 rfl) ?_
  refine lv_iconst (v := 0) hx hb dX9_leaves_1 (by decide) ?_
  refine wd_put hC i9 tyX9_ok nmX9 hW 0 wR_c0 rfl 0 (Nat.le_of_ble_eq_true rfl) f77 rfl rfl rfl rfl (Nat.le_of_ble_eq_true rfl) wR_s0_0 dX9_leaves_2 (fun H locs hW => ?_)
  obtain ⟨T1, e2, h⟩ := nm_of h
  replace hW := wq_T e2 hW
  refine lv_aload_n hx hb dX9_leaves_5 rfl (lv_at hl 0 rfl) ?_
  refine wd_get hC i9 hW 0 wR_c0 rfl 3 (Nat.le_of_ble_eq_true rfl) f84 rfl rfl dX9_leaves_6 ?_
  refine lv_if_ne (tgt := 15) hx hb dX9_leaves_9 (by decide) (fun c3 => ?_) (fun c3 => ?_)
  · replace h := ite_f h c3
    refine lv_aload_n hx hb dX9_leaves_15 rfl (lv_at hl 0 rfl) ?_
    refine lv_dup hx hb dX9_leaves_16 rfl ?_
    refine wd_get hC i9 hW 0 wR_c0 rfl 3 (Nat.le_of_ble_eq_true rfl) f84 rfl rfl dX9_leaves_17 ?_
    refine lv_iconst (v := 1) hx hb dX9_leaves_20 (by decide) ?_
    refine lv_isub hx hb dX9_leaves_21 ?_
    refine wd_put hC i9 tyX9_ok nmX9 hW 0 wR_c0 rfl 3 (Nat.le_of_ble_eq_true rfl) f84 rfl rfl rfl rfl (Nat.le_of_ble_eq_true rfl) wR_s0_3 dX9_leaves_22 (fun H locs hW => ?_)
    obtain ⟨T4, e5, h⟩ := nm_of h
    replace hW := wq_T e5 hW
    refine lv_aload_n hx hb dX9_leaves_25 rfl (lv_at hl 0 rfl) ?_
    obtain ⟨r6, hr7, h⟩ := bd_of h
    refine wd_callV0 (As := []) hC hW 0 wR_c0 rfl (c_X9_meetBegins l D cy ad X n T4 r6 hr7) (cwV 0 hts (gu_V w_11_6 w_11_3 w_11_4 w_11_5 w_1_5) rfl rfl rfl hdX9_meetBegins ⟨Nat.le_of_ble_eq_true rfl, Nat.le_of_ble_eq_true rfl⟩) rfl hl.1 rfl (Nat.le_of_ble_eq_true rfl) ⟨Nat.zero_le _, Nat.zero_le _⟩ dX9_leaves_26 (fun H locs hW => ?_)
    refine lv_aload_n hx hb dX9_leaves_29 rfl (lv_at hl 0 rfl) ?_
    refine wd_get hC i9 hW 0 wR_c0 rfl 3 (Nat.le_of_ble_eq_true rfl) f84 rfl rfl dX9_leaves_30 ?_
    obtain rfl := Option.some.inj h
    exact wd_iret hA hQ hC hr hk hW dX9_leaves_33
  · replace h := ite_t h c3
    refine lv_bipush (v := (-2)) hx hb dX9_leaves_12 (by decide) ?_
    obtain rfl := Option.some.inj h
    exact wd_iret hA hQ hC hr hk hW dX9_leaves_14
def m_X9_plans (n : Nat) (T : St) (p0 : Int32) (p1 : Int32) (p2 : Int32) (p3 : Int32) : Option (Int32 × St) :=
  nm (sI T 0 0) (fun T1 => (m_X9_isLifter T1 p0).bind (fun r3 => if r3 = 0 then (some ((-1), T1)) else ((m_X9_isLift T1 p1).bind (fun r6 => if r6 = 0 then (some ((-1), T1)) else ((m_X9_in T1 p2.toInt64 0 2).bind (fun r9 => if r9 = 0 then (some ((-1), T1)) else (((if p2 = 2 then (some 0) else (some 1) : Option (Int64))).bind (fun q13 => ((if p2 = 0 then (some 40) else (some 9) : Option (Int64))).bind (fun q16 => (m_X9_in T1 p3.toInt64 q13 q16).bind (fun r18 => if r18 = 0 then (some ((-1), T1)) else ((m_X9_planOf T1 p0 p1 p2).bind (fun r21 => ck ((3 * ((3 * p0) + p1)) + p2) 54 (nm (sA T1 9 ((3 * ((3 * p0) + p1)) + p2).toNatClampNeg p3) (fun T24 => (m_X9_meetBegins n T24).bind (fun r26 => some (r21, r26))))))))))))))))
set_option maxHeartbeats 4000000 in
set_option maxRecDepth 100000 in
theorem c_X9_plans (l : Launch) (D : va_G) (cy : Nat → ClassId) (ad : Nat → Nat) (X : va_W) (n : Nat) (T : St) (p0 : Int32) (p1 : Int32) (p2 : Int32) (p3 : Int32) (r : (Int32 × St)) (h : m_X9_plans n T p0 p1 p2 p3 = some r) : CT l yX9_plans (wu yX9_plans cX9_plans 6 (some .int)) 4 D cy [.ref (ad 0), .int p0, .int p1, .int p2, .int p3] (wR ad cy T ++ X) (some (.int r.1)) (wR ad cy r.2 ++ X) := by
  refine CT.mk (cc := cX9_plans) (maxL := 6) (ret := (some .int)) (own := RX9) (by decide) rfl rfl (Nat.le_of_ble_eq_true rfl) ?_
  intro p e s m args below meth c ls A Q hA hQ hC hr hk hW hl
  have hx := hC.1
  have hb := hC.2.1
  have hown := hC.2.2.2.1
  have hts := hC.2.2.2.2
  have hl : lv_has ls 6 [(0, .ref (ad 0)), (1, .int p0), (2, .int p1), (3, .int p2), (4, .int p3)] := hl
  have f77 := hts _ (wu_in w_6_14)
  have i9 := (fun w h => wu_in (inc_9 w h) : ∀ w ∈ u_ws RX9 TX9 40, w ∈ (wu yX9_plans cX9_plans 6 (some .int)))
  have k91 := hts _ (wu_in w_13_23)
  have f29 := hts _ (wu_in w_5_9)
  have k241 := hts _ (wu_in w_14_1)
  have k239 := hts _ (wu_in w_14_0)
  unfold m_X9_plans at h
  refine lv_aload_n hx hb dX9_plans_0 rfl (lv_at hl 0 rfl) ?_
  refine lv_iconst (v := 0) hx hb dX9_plans_1 (by decide) ?_
  refine wd_put hC i9 tyX9_ok nmX9 hW 0 wR_c0 rfl 0 (Nat.le_of_ble_eq_true rfl) f77 rfl rfl rfl rfl (Nat.le_of_ble_eq_true rfl) wR_s0_0 dX9_plans_2 (fun H locs hW => ?_)
  obtain ⟨T1, e2, h⟩ := nm_of h
  replace hW := wq_T e2 hW
  refine lv_aload_n hx hb dX9_plans_5 rfl (lv_at hl 0 rfl) ?_
  refine lv_iload_n hx hb dX9_plans_6 rfl (lv_at hl 1 rfl) ?_
  obtain ⟨r3, hr4, h⟩ := bd_of h
  refine wd_callV1 (As := [.int p0]) hC hW 0 wR_c0 rfl (c_X9_isLifter l D cy ad X T1 p0 r3 hr4) (cwV 1 hts (gu_V w_14_5 w_14_2 w_14_3 w_14_4 w_1_5) rfl rfl rfl hdX9_isLifter ⟨Nat.le_of_ble_eq_true rfl, Nat.le_of_ble_eq_true rfl⟩) rfl hl.1 rfl (Nat.le_of_ble_eq_true rfl) ⟨Nat.zero_le _, Nat.zero_le _⟩ dX9_plans_7 (fun H locs hW => ?_)
  refine lv_if_eq (tgt := 64) hx hb dX9_plans_10 (by decide) (fun c5 => ?_) (fun c5 => ?_)
  · replace h := ite_t h c5
    refine lv_iconst (v := (-1)) hx hb dX9_plans_64 (by decide) ?_
    obtain rfl := Option.some.inj h
    exact wd_iret hA hQ hC hr hk hW dX9_plans_65
  · replace h := ite_f h c5
    refine lv_iload_n hx hb dX9_plans_13 rfl (lv_at hl 2 rfl) ?_
    obtain ⟨r6, hr7, h⟩ := bd_of h
    refine wd_callS1 (As := [.int p1]) hC hW (c_X9_isLift l D cy ad X T1 p1 r6 hr7) (va_cwS 1 hts (gu_S w_14_8 w_14_6 w_14_7 w_1_5) rfl rfl rfl hdX9_isLift ⟨Nat.le_of_ble_eq_true rfl, Nat.le_of_ble_eq_true rfl⟩) rfl hl.1 rfl (Nat.le_of_ble_eq_true rfl) ⟨Nat.zero_le _, Nat.zero_le _⟩ dX9_plans_14 (fun H locs hW => ?_)
    refine lv_if_eq (tgt := 64) hx hb dX9_plans_17 (by decide) (fun c8 => ?_) (fun c8 => ?_)
    · replace h := ite_t h c8
      refine lv_iconst (v := (-1)) hx hb dX9_plans_64 (by decide) ?_
      obtain rfl := Option.some.inj h
      exact wd_iret hA hQ hC hr hk hW dX9_plans_65
    · replace h := ite_f h c8
      refine lv_iload_n hx hb dX9_plans_20 rfl (lv_at hl 3 rfl) ?_
      refine lv_i2l (v := p2.toInt64) hx hb dX9_plans_21 rfl ?_
      refine lv_lconst (v := 0) hx hb dX9_plans_22 (by decide) ?_
      refine lv_ldc2 hx hb hown k91 dX9_plans_23 ?_
      obtain ⟨r9, hr10, h⟩ := bd_of h
      refine wd_callS1 (As := [.long p2.toInt64, .long 0, .long 2]) hC hW (c_X9_in l D cy ad X T1 p2.toInt64 0 2 r9 hr10) (va_cwS 3 hts (gu_S w_7_6 w_7_4 w_7_5 w_1_5) rfl rfl rfl hdX9_in ⟨Nat.le_of_ble_eq_true rfl, Nat.le_of_ble_eq_true rfl⟩) rfl hl.1 rfl (Nat.le_of_ble_eq_true rfl) ⟨Nat.zero_le _, Nat.zero_le _⟩ dX9_plans_26 (fun H locs hW => ?_)
      refine lv_if_eq (tgt := 64) hx hb dX9_plans_29 (by decide) (fun c11 => ?_) (fun c11 => ?_)
      · replace h := ite_t h c11
        refine lv_iconst (v := (-1)) hx hb dX9_plans_64 (by decide) ?_
        obtain rfl := Option.some.inj h
        exact wd_iret hA hQ hC hr hk hW dX9_plans_65
      · replace h := ite_f h c11
        refine lv_iload hx hb dX9_plans_32 (lv_at hl 4 rfl) ?_
        refine lv_i2l (v := p3.toInt64) hx hb dX9_plans_34 rfl ?_
        refine lv_iload_n hx hb dX9_plans_35 rfl (lv_at hl 3 rfl) ?_
        refine lv_iconst (v := 2) hx hb dX9_plans_36 (by decide) ?_
        obtain ⟨q13, hq14, h⟩ := bd_of h
        have hJ45 : ∀ (H : Heap) (locs : List Loc) (ls : Array Slot), Wd D cy A s (wR ad cy T1 ++ X) H locs → lv_has ls 6 [(0, .ref (ad 0)), (1, .int p0), (2, .int p1), (3, .int p2), (4, .int p3)] → W p l e (RM 4) s m args below meth c H locs 0 0 Q (F0 m 45 ls [.long q13, .long p3.toInt64]) := by
          intro H locs ls hW hl
          refine lv_iload_n hx hb dX9_plans_45 rfl (lv_at hl 3 rfl) ?_
          obtain ⟨q16, hq17, h⟩ := bd_of h
          have hJ58 : ∀ (H : Heap) (locs : List Loc) (ls : Array Slot), Wd D cy A s (wR ad cy T1 ++ X) H locs → lv_has ls 6 [(0, .ref (ad 0)), (1, .int p0), (2, .int p1), (3, .int p2), (4, .int p3)] → W p l e (RM 4) s m args below meth c H locs 0 0 Q (F0 m 58 ls [.long q16, .long q13, .long p3.toInt64]) := by
            intro H locs ls hW hl
            obtain ⟨r18, hr19, h⟩ := bd_of h
            refine wd_callS1 (As := [.long p3.toInt64, .long q13, .long q16]) hC hW (c_X9_in l D cy ad X T1 p3.toInt64 q13 q16 r18 hr19) (va_cwS 3 hts (gu_S w_7_6 w_7_4 w_7_5 w_1_5) rfl rfl rfl hdX9_in ⟨Nat.le_of_ble_eq_true rfl, Nat.le_of_ble_eq_true rfl⟩) rfl hl.1 rfl (Nat.le_of_ble_eq_true rfl) ⟨Nat.zero_le _, Nat.zero_le _⟩ dX9_plans_58 (fun H locs hW => ?_)
            refine lv_if_ne (tgt := 66) hx hb dX9_plans_61 (by decide) (fun c20 => ?_) (fun c20 => ?_)
            · replace h := ite_f h c20
              refine lv_aload_n hx hb dX9_plans_66 rfl (lv_at hl 0 rfl) ?_
              refine lv_iload_n hx hb dX9_plans_67 rfl (lv_at hl 1 rfl) ?_
              refine lv_iload_n hx hb dX9_plans_68 rfl (lv_at hl 2 rfl) ?_
              refine lv_iload_n hx hb dX9_plans_69 rfl (lv_at hl 3 rfl) ?_
              obtain ⟨r21, hr22, h⟩ := bd_of h
              refine wd_callV1 (As := [.int p0, .int p1, .int p2]) hC hW 0 wR_c0 rfl (c_X9_planOf l D cy ad X T1 p0 p1 p2 r21 hr22) (cwV 3 hts (gu_V w_12_4 w_12_1 w_12_2 w_12_3 w_1_5) rfl rfl rfl hdX9_planOf ⟨Nat.le_of_ble_eq_true rfl, Nat.le_of_ble_eq_true rfl⟩) rfl hl.1 rfl (Nat.le_of_ble_eq_true rfl) ⟨Nat.zero_le _, Nat.zero_le _⟩ dX9_plans_70 (fun H locs hW => ?_)
              refine lv_istore (lv' := [(5, .int r21), (0, .ref (ad 0)), (1, .int p0), (2, .int p1), (3, .int p2), (4, .int p3)]) hx hb dX9_plans_73 hl (by decide) rfl (fun ls hl => ?_)
              refine lv_aload_n hx hb dX9_plans_75 rfl (lv_at hl 1 rfl) ?_
              refine wd_get hC i9 hW 0 wR_c0 rfl 9 (Nat.le_of_ble_eq_true rfl) f29 rfl rfl dX9_plans_76 ?_
              refine lv_iconst (v := 3) hx hb dX9_plans_79 (by decide) ?_
              refine lv_iconst (v := 3) hx hb dX9_plans_80 (by decide) ?_
              refine lv_iload_n hx hb dX9_plans_81 rfl (lv_at hl 2 rfl) ?_
              refine lv_imul hx hb dX9_plans_82 ?_
              refine lv_iload_n hx hb dX9_plans_83 rfl (lv_at hl 3 rfl) ?_
              refine lv_iadd hx hb dX9_plans_84 ?_
              refine lv_imul hx hb dX9_plans_85 ?_
              refine lv_iload_n hx hb dX9_plans_86 rfl (lv_at hl 4 rfl) ?_
              refine lv_iadd hx hb dX9_plans_87 ?_
              refine lv_iload hx hb dX9_plans_88 (lv_at hl 5 rfl) ?_
              obtain ⟨hi23, h⟩ := ck_of h
              refine wd_iast hC hW 7 wR_c7 hi23 wR_t7 dX9_plans_90 (fun H locs hW => ?_)
              obtain ⟨T24, e25, h⟩ := nm_of h
              replace hW := wq_T e25 hW
              refine lv_aload_n hx hb dX9_plans_91 rfl (lv_at hl 1 rfl) ?_
              obtain ⟨r26, hr27, h⟩ := bd_of h
              refine wd_callV0 (As := []) hC hW 0 wR_c0 rfl (c_X9_meetBegins l D cy ad X n T24 r26 hr27) (cwV 0 hts (gu_V w_11_6 w_11_3 w_11_4 w_11_5 w_1_5) rfl rfl rfl hdX9_meetBegins ⟨Nat.le_of_ble_eq_true rfl, Nat.le_of_ble_eq_true rfl⟩) rfl hl.1 rfl (Nat.le_of_ble_eq_true rfl) ⟨Nat.zero_le _, Nat.zero_le _⟩ dX9_plans_92 (fun H locs hW => ?_)
              refine lv_iload hx hb dX9_plans_95 (lv_at hl 0 rfl) ?_
              obtain rfl := Option.some.inj h
              exact wd_iret hA hQ hC hr hk hW dX9_plans_97
            · replace h := ite_t h c20
              refine lv_iconst (v := (-1)) hx hb dX9_plans_64 (by decide) ?_
              obtain rfl := Option.some.inj h
              exact wd_iret hA hQ hC hr hk hW dX9_plans_65
          replace h := hq17
          refine lv_if_ne (tgt := 55) hx hb dX9_plans_46 (by decide) (fun c15 => ?_) (fun c15 => ?_)
          · replace h := ite_f h c15
            refine lv_ldc2 hx hb hown k241 dX9_plans_55 ?_
            obtain rfl := Option.some.inj h
            exact hJ58 _ _ _ hW (lv_sub hl [0, 1, 2, 3, 4] rfl)
          · replace h := ite_t h c15
            refine lv_ldc2 hx hb hown k239 dX9_plans_49 ?_
            refine lv_goto (tgt := 58) hx hb dX9_plans_52 (by decide) ?_
            obtain rfl := Option.some.inj h
            exact hJ58 _ _ _ hW (lv_sub hl [0, 1, 2, 3, 4] rfl)
        replace h := hq14
        refine lv_icmp_ne (tgt := 44) hx hb dX9_plans_37 (by decide) (fun c12 => ?_) (fun c12 => ?_)
        · replace h := ite_f h c12
          refine lv_lconst (v := 1) hx hb dX9_plans_44 (by decide) ?_
          obtain rfl := Option.some.inj h
          exact hJ45 _ _ _ hW (lv_sub hl [0, 1, 2, 3, 4] rfl)
        · replace h := ite_t h c12
          refine lv_lconst (v := 0) hx hb dX9_plans_40 (by decide) ?_
          refine lv_goto (tgt := 45) hx hb dX9_plans_41 (by decide) ?_
          obtain rfl := Option.some.inj h
          exact hJ45 _ _ _ hW (lv_sub hl [0, 1, 2, 3, 4] rfl)
def m_X9_tires (T : St) (p0 : Int32) : Option (Int32 × St) :=
  nm (sI T 0 0) (fun T1 => (m_X9_in T1 p0.toInt64 0 300).bind (fun r3 => if r3 = 0 then (some ((-1), T1)) else (nm (sI T1 10 p0) (fun T6 => some (T1.1 10, T6)))))
set_option maxHeartbeats 4000000 in
set_option maxRecDepth 100000 in
theorem c_X9_tires (l : Launch) (D : va_G) (cy : Nat → ClassId) (ad : Nat → Nat) (X : va_W) (T : St) (p0 : Int32) (r : (Int32 × St)) (h : m_X9_tires T p0 = some r) : CT l yX9_tires (wu yX9_tires cX9_tires 3 (some .int)) 1 D cy [.ref (ad 0), .int p0] (wR ad cy T ++ X) (some (.int r.1)) (wR ad cy r.2 ++ X) := by
  refine CT.mk (cc := cX9_tires) (maxL := 3) (ret := (some .int)) (own := RX9) (by decide) rfl rfl (Nat.le_of_ble_eq_true rfl) ?_
  intro p e s m args below meth c ls A Q hA hQ hC hr hk hW hl
  have hx := hC.1
  have hb := hC.2.1
  have hown := hC.2.2.2.1
  have hts := hC.2.2.2.2
  have hl : lv_has ls 3 [(0, .ref (ad 0)), (1, .int p0)] := hl
  have f77 := hts _ (wu_in w_6_14)
  have i9 := (fun w h => wu_in (inc_9 w h) : ∀ w ∈ u_ws RX9 TX9 40, w ∈ (wu yX9_tires cX9_tires 3 (some .int)))
  have k243 := hts _ (wu_in w_14_18)
  have f97 := hts _ (wu_in w_14_19)
  unfold m_X9_tires at h
  refine lv_aload_n hx hb dX9_tires_0 rfl (lv_at hl 0 rfl) ?_
  refine lv_iconst (v := 0) hx hb dX9_tires_1 (by decide) ?_
  refine wd_put hC i9 tyX9_ok nmX9 hW 0 wR_c0 rfl 0 (Nat.le_of_ble_eq_true rfl) f77 rfl rfl rfl rfl (Nat.le_of_ble_eq_true rfl) wR_s0_0 dX9_tires_2 (fun H locs hW => ?_)
  obtain ⟨T1, e2, h⟩ := nm_of h
  replace hW := wq_T e2 hW
  refine lv_iload_n hx hb dX9_tires_5 rfl (lv_at hl 1 rfl) ?_
  refine lv_i2l (v := p0.toInt64) hx hb dX9_tires_6 rfl ?_
  refine lv_lconst (v := 0) hx hb dX9_tires_7 (by decide) ?_
  refine lv_ldc2 hx hb hown k243 dX9_tires_8 ?_
  obtain ⟨r3, hr4, h⟩ := bd_of h
  refine wd_callS1 (As := [.long p0.toInt64, .long 0, .long 300]) hC hW (c_X9_in l D cy ad X T1 p0.toInt64 0 300 r3 hr4) (va_cwS 3 hts (gu_S w_7_6 w_7_4 w_7_5 w_1_5) rfl rfl rfl hdX9_in ⟨Nat.le_of_ble_eq_true rfl, Nat.le_of_ble_eq_true rfl⟩) rfl hl.1 rfl (Nat.le_of_ble_eq_true rfl) ⟨Nat.zero_le _, Nat.zero_le _⟩ dX9_tires_11 (fun H locs hW => ?_)
  refine lv_if_ne (tgt := 19) hx hb dX9_tires_14 (by decide) (fun c5 => ?_) (fun c5 => ?_)
  · replace h := ite_f h c5
    refine lv_aload_n hx hb dX9_tires_19 rfl (lv_at hl 0 rfl) ?_
    refine wd_get hC i9 hW 0 wR_c0 rfl 10 (Nat.le_of_ble_eq_true rfl) f97 rfl rfl dX9_tires_20 ?_
    refine lv_istore_n (lv' := [(2, .int (T1.1 10)), (0, .ref (ad 0)), (1, .int p0)]) hx hb dX9_tires_23 rfl hl (by decide) rfl (fun ls hl => ?_)
    refine lv_aload_n hx hb dX9_tires_24 rfl (lv_at hl 1 rfl) ?_
    refine lv_iload_n hx hb dX9_tires_25 rfl (lv_at hl 2 rfl) ?_
    refine wd_put hC i9 tyX9_ok nmX9 hW 0 wR_c0 rfl 10 (Nat.le_of_ble_eq_true rfl) f97 rfl rfl rfl rfl (Nat.le_of_ble_eq_true rfl) wR_s0_10 dX9_tires_26 (fun H locs hW => ?_)
    obtain ⟨T6, e7, h⟩ := nm_of h
    replace hW := wq_T e7 hW
    refine lv_iload_n hx hb dX9_tires_29 rfl (lv_at hl 0 rfl) ?_
    obtain rfl := Option.some.inj h
    exact wd_iret hA hQ hC hr hk hW dX9_tires_30
  · replace h := ite_t h c5
    refine lv_iconst (v := (-1)) hx hb dX9_tires_17 (by decide) ?_
    obtain rfl := Option.some.inj h
    exact wd_iret hA hQ hC hr hk hW dX9_tires_18
def m_X9_begins (n : Nat) (T : St) : Option (Int32 × St) :=
  nm (sI T 0 0) (fun T1 => (m_X9_meetBegins n T1).bind (fun r3 => some (r3.1 3, r3)))
set_option maxHeartbeats 4000000 in
set_option maxRecDepth 100000 in
theorem c_X9_begins (l : Launch) (D : va_G) (cy : Nat → ClassId) (ad : Nat → Nat) (X : va_W) (n : Nat) (T : St) (r : (Int32 × St)) (h : m_X9_begins n T = some r) : CT l yX9_begins (wu yX9_begins cX9_begins 1 (some .int)) 4 D cy [.ref (ad 0)] (wR ad cy T ++ X) (some (.int r.1)) (wR ad cy r.2 ++ X) := by
  refine CT.mk (cc := cX9_begins) (maxL := 1) (ret := (some .int)) (own := RX9) (by decide) rfl rfl (Nat.le_of_ble_eq_true rfl) ?_
  intro p e s m args below meth c ls A Q hA hQ hC hr hk hW hl
  have hx := hC.1
  have hb := hC.2.1
  have hown := hC.2.2.2.1
  have hts := hC.2.2.2.2
  have hl : lv_has ls 1 [(0, .ref (ad 0))] := hl
  have f77 := hts _ (wu_in w_6_14)
  have i9 := (fun w h => wu_in (inc_9 w h) : ∀ w ∈ u_ws RX9 TX9 40, w ∈ (wu yX9_begins cX9_begins 1 (some .int)))
  have f84 := hts _ (wu_in w_9_13)
  unfold m_X9_begins at h
  refine lv_aload_n hx hb dX9_begins_0 rfl (lv_at hl 0 rfl) ?_
  refine lv_iconst (v := 0) hx hb dX9_begins_1 (by decide) ?_
  refine wd_put hC i9 tyX9_ok nmX9 hW 0 wR_c0 rfl 0 (Nat.le_of_ble_eq_true rfl) f77 rfl rfl rfl rfl (Nat.le_of_ble_eq_true rfl) wR_s0_0 dX9_begins_2 (fun H locs hW => ?_)
  obtain ⟨T1, e2, h⟩ := nm_of h
  replace hW := wq_T e2 hW
  refine lv_aload_n hx hb dX9_begins_5 rfl (lv_at hl 0 rfl) ?_
  obtain ⟨r3, hr4, h⟩ := bd_of h
  refine wd_callV0 (As := []) hC hW 0 wR_c0 rfl (c_X9_meetBegins l D cy ad X n T1 r3 hr4) (cwV 0 hts (gu_V w_11_6 w_11_3 w_11_4 w_11_5 w_1_5) rfl rfl rfl hdX9_meetBegins ⟨Nat.le_of_ble_eq_true rfl, Nat.le_of_ble_eq_true rfl⟩) rfl hl.1 rfl (Nat.le_of_ble_eq_true rfl) ⟨Nat.zero_le _, Nat.zero_le _⟩ dX9_begins_6 (fun H locs hW => ?_)
  refine lv_aload_n hx hb dX9_begins_9 rfl (lv_at hl 0 rfl) ?_
  refine wd_get hC i9 hW 0 wR_c0 rfl 3 (Nat.le_of_ble_eq_true rfl) f84 rfl rfl dX9_begins_10 ?_
  obtain rfl := Option.some.inj h
  exact wd_iret hA hQ hC hr hk hW dX9_begins_13
def m_X9_odds (n : Nat) (T : St) (p0 : Int32) (p1 : Int32) (p2 : Int32) (p3 : Int32) : Option (Int32 × St) :=
  nm (sI T 0 0) (fun T1 => (m_X9_isLifter T1 p0).bind (fun r3 => if r3 = 0 then (some ((-1), T1)) else ((m_X9_isLift T1 p1).bind (fun r6 => if r6 = 0 then (some ((-1), T1)) else ((m_X9_in T1 p2.toInt64 1 40).bind (fun r9 => if r9 = 0 then (some ((-1), T1)) else ((m_X9_in T1 p3.toInt64 0 2).bind (fun r12 => if r12 = 0 then (some ((-1), T1)) else ((m_X9_oddsOf n T1 p0 p1 p2 p3).bind (fun r15 => some (r15, T1)))))))))))
set_option maxHeartbeats 4000000 in
set_option maxRecDepth 100000 in
theorem c_X9_odds (l : Launch) (D : va_G) (cy : Nat → ClassId) (ad : Nat → Nat) (X : va_W) (n : Nat) (T : St) (p0 : Int32) (p1 : Int32) (p2 : Int32) (p3 : Int32) (r : (Int32 × St)) (h : m_X9_odds n T p0 p1 p2 p3 = some r) : CT l yX9_odds (wu yX9_odds cX9_odds 5 (some .int)) 2 D cy [.ref (ad 0), .int p0, .int p1, .int p2, .int p3] (wR ad cy T ++ X) (some (.int r.1)) (wR ad cy r.2 ++ X) := by
  refine CT.mk (cc := cX9_odds) (maxL := 5) (ret := (some .int)) (own := RX9) (by decide) rfl rfl (Nat.le_of_ble_eq_true rfl) ?_
  intro p e s m args below meth c ls A Q hA hQ hC hr hk hW hl
  have hx := hC.1
  have hb := hC.2.1
  have hown := hC.2.2.2.1
  have hts := hC.2.2.2.2
  have hl : lv_has ls 5 [(0, .ref (ad 0)), (1, .int p0), (2, .int p1), (3, .int p2), (4, .int p3)] := hl
  have f77 := hts _ (wu_in w_6_14)
  have i9 := (fun w h => wu_in (inc_9 w h) : ∀ w ∈ u_ws RX9 TX9 40, w ∈ (wu yX9_odds cX9_odds 5 (some .int)))
  have k239 := hts _ (wu_in w_14_0)
  have k91 := hts _ (wu_in w_13_23)
  unfold m_X9_odds at h
  refine lv_aload_n hx hb dX9_odds_0 rfl (lv_at hl 0 rfl) ?_
  refine lv_iconst (v := 0) hx hb dX9_odds_1 (by decide) ?_
  refine wd_put hC i9 tyX9_ok nmX9 hW 0 wR_c0 rfl 0 (Nat.le_of_ble_eq_true rfl) f77 rfl rfl rfl rfl (Nat.le_of_ble_eq_true rfl) wR_s0_0 dX9_odds_2 (fun H locs hW => ?_)
  obtain ⟨T1, e2, h⟩ := nm_of h
  replace hW := wq_T e2 hW
  refine lv_aload_n hx hb dX9_odds_5 rfl (lv_at hl 0 rfl) ?_
  refine lv_iload_n hx hb dX9_odds_6 rfl (lv_at hl 1 rfl) ?_
  obtain ⟨r3, hr4, h⟩ := bd_of h
  refine wd_callV1 (As := [.int p0]) hC hW 0 wR_c0 rfl (c_X9_isLifter l D cy ad X T1 p0 r3 hr4) (cwV 1 hts (gu_V w_14_5 w_14_2 w_14_3 w_14_4 w_1_5) rfl rfl rfl hdX9_isLifter ⟨Nat.le_of_ble_eq_true rfl, Nat.le_of_ble_eq_true rfl⟩) rfl hl.1 rfl (Nat.le_of_ble_eq_true rfl) ⟨Nat.zero_le _, Nat.zero_le _⟩ dX9_odds_7 (fun H locs hW => ?_)
  refine lv_if_eq (tgt := 57) hx hb dX9_odds_10 (by decide) (fun c5 => ?_) (fun c5 => ?_)
  · replace h := ite_t h c5
    refine lv_iconst (v := (-1)) hx hb dX9_odds_57 (by decide) ?_
    obtain rfl := Option.some.inj h
    exact wd_iret hA hQ hC hr hk hW dX9_odds_58
  · replace h := ite_f h c5
    refine lv_iload_n hx hb dX9_odds_13 rfl (lv_at hl 2 rfl) ?_
    obtain ⟨r6, hr7, h⟩ := bd_of h
    refine wd_callS1 (As := [.int p1]) hC hW (c_X9_isLift l D cy ad X T1 p1 r6 hr7) (va_cwS 1 hts (gu_S w_14_8 w_14_6 w_14_7 w_1_5) rfl rfl rfl hdX9_isLift ⟨Nat.le_of_ble_eq_true rfl, Nat.le_of_ble_eq_true rfl⟩) rfl hl.1 rfl (Nat.le_of_ble_eq_true rfl) ⟨Nat.zero_le _, Nat.zero_le _⟩ dX9_odds_14 (fun H locs hW => ?_)
    refine lv_if_eq (tgt := 57) hx hb dX9_odds_17 (by decide) (fun c8 => ?_) (fun c8 => ?_)
    · replace h := ite_t h c8
      refine lv_iconst (v := (-1)) hx hb dX9_odds_57 (by decide) ?_
      obtain rfl := Option.some.inj h
      exact wd_iret hA hQ hC hr hk hW dX9_odds_58
    · replace h := ite_f h c8
      refine lv_iload_n hx hb dX9_odds_20 rfl (lv_at hl 3 rfl) ?_
      refine lv_i2l (v := p2.toInt64) hx hb dX9_odds_21 rfl ?_
      refine lv_lconst (v := 1) hx hb dX9_odds_22 (by decide) ?_
      refine lv_ldc2 hx hb hown k239 dX9_odds_23 ?_
      obtain ⟨r9, hr10, h⟩ := bd_of h
      refine wd_callS1 (As := [.long p2.toInt64, .long 1, .long 40]) hC hW (c_X9_in l D cy ad X T1 p2.toInt64 1 40 r9 hr10) (va_cwS 3 hts (gu_S w_7_6 w_7_4 w_7_5 w_1_5) rfl rfl rfl hdX9_in ⟨Nat.le_of_ble_eq_true rfl, Nat.le_of_ble_eq_true rfl⟩) rfl hl.1 rfl (Nat.le_of_ble_eq_true rfl) ⟨Nat.zero_le _, Nat.zero_le _⟩ dX9_odds_26 (fun H locs hW => ?_)
      refine lv_if_eq (tgt := 57) hx hb dX9_odds_29 (by decide) (fun c11 => ?_) (fun c11 => ?_)
      · replace h := ite_t h c11
        refine lv_iconst (v := (-1)) hx hb dX9_odds_57 (by decide) ?_
        obtain rfl := Option.some.inj h
        exact wd_iret hA hQ hC hr hk hW dX9_odds_58
      · replace h := ite_f h c11
        refine lv_iload hx hb dX9_odds_32 (lv_at hl 4 rfl) ?_
        refine lv_i2l (v := p3.toInt64) hx hb dX9_odds_34 rfl ?_
        refine lv_lconst (v := 0) hx hb dX9_odds_35 (by decide) ?_
        refine lv_ldc2 hx hb hown k91 dX9_odds_36 ?_
        obtain ⟨r12, hr13, h⟩ := bd_of h
        refine wd_callS1 (As := [.long p3.toInt64, .long 0, .long 2]) hC hW (c_X9_in l D cy ad X T1 p3.toInt64 0 2 r12 hr13) (va_cwS 3 hts (gu_S w_7_6 w_7_4 w_7_5 w_1_5) rfl rfl rfl hdX9_in ⟨Nat.le_of_ble_eq_true rfl, Nat.le_of_ble_eq_true rfl⟩) rfl hl.1 rfl (Nat.le_of_ble_eq_true rfl) ⟨Nat.zero_le _, Nat.zero_le _⟩ dX9_odds_39 (fun H locs hW => ?_)
        refine lv_if_eq (tgt := 57) hx hb dX9_odds_42 (by decide) (fun c14 => ?_) (fun c14 => ?_)
        · replace h := ite_t h c14
          refine lv_iconst (v := (-1)) hx hb dX9_odds_57 (by decide) ?_
          obtain rfl := Option.some.inj h
          exact wd_iret hA hQ hC hr hk hW dX9_odds_58
        · replace h := ite_f h c14
          refine lv_aload_n hx hb dX9_odds_45 rfl (lv_at hl 0 rfl) ?_
          refine lv_iload_n hx hb dX9_odds_46 rfl (lv_at hl 1 rfl) ?_
          refine lv_iload_n hx hb dX9_odds_47 rfl (lv_at hl 2 rfl) ?_
          refine lv_iload_n hx hb dX9_odds_48 rfl (lv_at hl 3 rfl) ?_
          refine lv_iload hx hb dX9_odds_49 (lv_at hl 4 rfl) ?_
          obtain ⟨r15, hr16, h⟩ := bd_of h
          refine wd_callV1 (As := [.int p0, .int p1, .int p2, .int p3]) hC hW 0 wR_c0 rfl (c_X9_oddsOf l D cy ad X n T1 p0 p1 p2 p3 r15 hr16) (cwV 4 hts (gu_V w_15_23 w_15_20 w_15_21 w_15_22 w_1_5) rfl rfl rfl hdX9_oddsOf ⟨Nat.le_of_ble_eq_true rfl, Nat.le_of_ble_eq_true rfl⟩) rfl hl.1 rfl (Nat.le_of_ble_eq_true rfl) ⟨Nat.zero_le _, Nat.zero_le _⟩ dX9_odds_51 (fun H locs hW => ?_)
          refine lv_goto (tgt := 58) hx hb dX9_odds_54 (by decide) ?_
          obtain rfl := Option.some.inj h
          exact wd_iret hA hQ hC hr hk hW dX9_odds_58
def m_X9_lifter (T : St) (p0 : Int32) (p1 : Int32) (p2 : Int32) : Option (Int32 × St) :=
  nm (sI T 0 0) (fun T1 => (m_X9_isLifter T1 p0).bind (fun r3 => if r3 = 0 then (some ((-1), T1)) else ((m_X9_isLift T1 p1).bind (fun r6 => if r6 = 0 then (some ((-1), T1)) else (if p2 = 0 then (ck p0 6 (some (T1.2.1 4 p0.toNatClampNeg, T1))) else (if p2 = 1 then (ck p0 6 (some (T1.2.1 5 p0.toNatClampNeg, T1))) else (if p2 = 2 then ((m_X9_planOf T1 p0 p1 0).bind (fun r14 => some (r14, T1))) else (if p2 = 3 then ((m_X9_planOf T1 p0 p1 1).bind (fun r17 => some (r17, T1))) else (if p2 = 4 then ((m_X9_planOf T1 p0 p1 2).bind (fun r20 => some (r20, T1))) else (if p2 = 5 then ((m_X9_of T1 p0 (7 + p1)).bind (fun r23 => some (r23, T1))) else (if p2 = 6 then ((m_X9_of T1 p0 0).bind (fun r26 => some (r26, T1))) else (if p2 = 7 then ((m_X9_leastOf T1 p0).bind (fun r29 => some (r29, T1))) else (if p2 = 8 then ((m_X9_of T1 p0 5).bind (fun r32 => some (r32, T1))) else (if p2 = 9 then ((m_X9_isStill T1 p0).bind (fun r35 => (m_X9_flag T1 r35).bind (fun r37 => some (r37, T1)))) else (if p2 = 10 then ((m_X9_of T1 p0 6).bind (fun r40 => some (r40, T1))) else (if p2 = 11 then ((m_X9_sumOf T1 p0).bind (fun r43 => some (r43, T1))) else (some ((-1), T1))))))))))))))))))
set_option maxHeartbeats 4000000 in
set_option maxRecDepth 100000 in
theorem c_X9_lifter (l : Launch) (D : va_G) (cy : Nat → ClassId) (ad : Nat → Nat) (X : va_W) (T : St) (p0 : Int32) (p1 : Int32) (p2 : Int32) (r : (Int32 × St)) (h : m_X9_lifter T p0 p1 p2 = some r) : CT l yX9_lifter (wu yX9_lifter cX9_lifter 4 (some .int)) 3 D cy [.ref (ad 0), .int p0, .int p1, .int p2] (wR ad cy T ++ X) (some (.int r.1)) (wR ad cy r.2 ++ X) := by
  refine CT.mk (cc := cX9_lifter) (maxL := 4) (ret := (some .int)) (own := RX9) (by decide) rfl rfl (Nat.le_of_ble_eq_true rfl) ?_
  intro p e s m args below meth c ls A Q hA hQ hC hr hk hW hl
  have hx := hC.1
  have hb := hC.2.1
  have hown := hC.2.2.2.1
  have hts := hC.2.2.2.2
  have hl : lv_has ls 4 [(0, .ref (ad 0)), (1, .int p0), (2, .int p1), (3, .int p2)] := hl
  have f77 := hts _ (wu_in w_6_14)
  have i9 := (fun w h => wu_in (inc_9 w h) : ∀ w ∈ u_ws RX9 TX9 40, w ∈ (wu yX9_lifter cX9_lifter 4 (some .int)))
  have f13 := hts _ (wu_in w_5_4)
  have f17 := hts _ (wu_in w_5_5)
  unfold m_X9_lifter at h
  refine lv_aload_n hx hb dX9_lifter_0 rfl (lv_at hl 0 rfl) ?_
  refine lv_iconst (v := 0) hx hb dX9_lifter_1 (by decide) ?_
  refine wd_put hC i9 tyX9_ok nmX9 hW 0 wR_c0 rfl 0 (Nat.le_of_ble_eq_true rfl) f77 rfl rfl rfl rfl (Nat.le_of_ble_eq_true rfl) wR_s0_0 dX9_lifter_2 (fun H locs hW => ?_)
  obtain ⟨T1, e2, h⟩ := nm_of h
  replace hW := wq_T e2 hW
  refine lv_aload_n hx hb dX9_lifter_5 rfl (lv_at hl 0 rfl) ?_
  refine lv_iload_n hx hb dX9_lifter_6 rfl (lv_at hl 1 rfl) ?_
  obtain ⟨r3, hr4, h⟩ := bd_of h
  refine wd_callV1 (As := [.int p0]) hC hW 0 wR_c0 rfl (c_X9_isLifter l D cy ad X T1 p0 r3 hr4) (cwV 1 hts (gu_V w_14_5 w_14_2 w_14_3 w_14_4 w_1_5) rfl rfl rfl hdX9_isLifter ⟨Nat.le_of_ble_eq_true rfl, Nat.le_of_ble_eq_true rfl⟩) rfl hl.1 rfl (Nat.le_of_ble_eq_true rfl) ⟨Nat.zero_le _, Nat.zero_le _⟩ dX9_lifter_7 (fun H locs hW => ?_)
  refine lv_if_eq (tgt := 20) hx hb dX9_lifter_10 (by decide) (fun c5 => ?_) (fun c5 => ?_)
  · replace h := ite_t h c5
    refine lv_iconst (v := (-1)) hx hb dX9_lifter_20 (by decide) ?_
    obtain rfl := Option.some.inj h
    exact wd_iret hA hQ hC hr hk hW dX9_lifter_21
  · replace h := ite_f h c5
    refine lv_iload_n hx hb dX9_lifter_13 rfl (lv_at hl 2 rfl) ?_
    obtain ⟨r6, hr7, h⟩ := bd_of h
    refine wd_callS1 (As := [.int p1]) hC hW (c_X9_isLift l D cy ad X T1 p1 r6 hr7) (va_cwS 1 hts (gu_S w_14_8 w_14_6 w_14_7 w_1_5) rfl rfl rfl hdX9_isLift ⟨Nat.le_of_ble_eq_true rfl, Nat.le_of_ble_eq_true rfl⟩) rfl hl.1 rfl (Nat.le_of_ble_eq_true rfl) ⟨Nat.zero_le _, Nat.zero_le _⟩ dX9_lifter_14 (fun H locs hW => ?_)
    refine lv_if_ne (tgt := 22) hx hb dX9_lifter_17 (by decide) (fun c8 => ?_) (fun c8 => ?_)
    · replace h := ite_f h c8
      refine lv_iload_n hx hb dX9_lifter_22 rfl (lv_at hl 3 rfl) ?_
      by_cases c9 : p2 = 0
      · replace h := ite_t h c9
        refine lv_tableIn (tgt := 84) hx hb dX9_lifter_23 (by rw [c9]; decide) (by rw [c9]; decide) (by rw [c9]; rfl) (by decide) ?_
        refine lv_aload_n hx hb dX9_lifter_84 rfl (lv_at hl 0 rfl) ?_
        refine wd_get hC i9 hW 0 wR_c0 rfl 4 (Nat.le_of_ble_eq_true rfl) f13 rfl rfl dX9_lifter_85 ?_
        refine lv_iload_n hx hb dX9_lifter_88 rfl (lv_at hl 1 rfl) ?_
        obtain ⟨hi10, h⟩ := ck_of h
        refine wd_iald hC hW 2 wR_c2 hi10 dX9_lifter_89 ?_
        obtain rfl := Option.some.inj h
        exact wd_iret hA hQ hC hr hk hW dX9_lifter_90
      replace h := ite_f h c9
      by_cases c11 : p2 = 1
      · replace h := ite_t h c11
        refine lv_tableIn (tgt := 91) hx hb dX9_lifter_23 (by rw [c11]; decide) (by rw [c11]; decide) (by rw [c11]; rfl) (by decide) ?_
        refine lv_aload_n hx hb dX9_lifter_91 rfl (lv_at hl 0 rfl) ?_
        refine wd_get hC i9 hW 0 wR_c0 rfl 5 (Nat.le_of_ble_eq_true rfl) f17 rfl rfl dX9_lifter_92 ?_
        refine lv_iload_n hx hb dX9_lifter_95 rfl (lv_at hl 1 rfl) ?_
        obtain ⟨hi12, h⟩ := ck_of h
        refine wd_iald hC hW 3 wR_c3 hi12 dX9_lifter_96 ?_
        obtain rfl := Option.some.inj h
        exact wd_iret hA hQ hC hr hk hW dX9_lifter_97
      replace h := ite_f h c11
      by_cases c13 : p2 = 2
      · replace h := ite_t h c13
        refine lv_tableIn (tgt := 98) hx hb dX9_lifter_23 (by rw [c13]; decide) (by rw [c13]; decide) (by rw [c13]; rfl) (by decide) ?_
        refine lv_aload_n hx hb dX9_lifter_98 rfl (lv_at hl 0 rfl) ?_
        refine lv_iload_n hx hb dX9_lifter_99 rfl (lv_at hl 1 rfl) ?_
        refine lv_iload_n hx hb dX9_lifter_100 rfl (lv_at hl 2 rfl) ?_
        refine lv_iconst (v := 0) hx hb dX9_lifter_101 (by decide) ?_
        obtain ⟨r14, hr15, h⟩ := bd_of h
        refine wd_callV1 (As := [.int p0, .int p1, .int 0]) hC hW 0 wR_c0 rfl (c_X9_planOf l D cy ad X T1 p0 p1 0 r14 hr15) (cwV 3 hts (gu_V w_12_4 w_12_1 w_12_2 w_12_3 w_1_5) rfl rfl rfl hdX9_planOf ⟨Nat.le_of_ble_eq_true rfl, Nat.le_of_ble_eq_true rfl⟩) rfl hl.1 rfl (Nat.le_of_ble_eq_true rfl) ⟨Nat.zero_le _, Nat.zero_le _⟩ dX9_lifter_102 (fun H locs hW => ?_)
        obtain rfl := Option.some.inj h
        exact wd_iret hA hQ hC hr hk hW dX9_lifter_105
      replace h := ite_f h c13
      by_cases c16 : p2 = 3
      · replace h := ite_t h c16
        refine lv_tableIn (tgt := 106) hx hb dX9_lifter_23 (by rw [c16]; decide) (by rw [c16]; decide) (by rw [c16]; rfl) (by decide) ?_
        refine lv_aload_n hx hb dX9_lifter_106 rfl (lv_at hl 0 rfl) ?_
        refine lv_iload_n hx hb dX9_lifter_107 rfl (lv_at hl 1 rfl) ?_
        refine lv_iload_n hx hb dX9_lifter_108 rfl (lv_at hl 2 rfl) ?_
        refine lv_iconst (v := 1) hx hb dX9_lifter_109 (by decide) ?_
        obtain ⟨r17, hr18, h⟩ := bd_of h
        refine wd_callV1 (As := [.int p0, .int p1, .int 1]) hC hW 0 wR_c0 rfl (c_X9_planOf l D cy ad X T1 p0 p1 1 r17 hr18) (cwV 3 hts (gu_V w_12_4 w_12_1 w_12_2 w_12_3 w_1_5) rfl rfl rfl hdX9_planOf ⟨Nat.le_of_ble_eq_true rfl, Nat.le_of_ble_eq_true rfl⟩) rfl hl.1 rfl (Nat.le_of_ble_eq_true rfl) ⟨Nat.zero_le _, Nat.zero_le _⟩ dX9_lifter_110 (fun H locs hW => ?_)
        obtain rfl := Option.some.inj h
        exact wd_iret hA hQ hC hr hk hW dX9_lifter_113
      replace h := ite_f h c16
      by_cases c19 : p2 = 4
      · replace h := ite_t h c19
        refine lv_tableIn (tgt := 114) hx hb dX9_lifter_23 (by rw [c19]; decide) (by rw [c19]; decide) (by rw [c19]; rfl) (by decide) ?_
        refine lv_aload_n hx hb dX9_lifter_114 rfl (lv_at hl 0 rfl) ?_
        refine lv_iload_n hx hb dX9_lifter_115 rfl (lv_at hl 1 rfl) ?_
        refine lv_iload_n hx hb dX9_lifter_116 rfl (lv_at hl 2 rfl) ?_
        refine lv_iconst (v := 2) hx hb dX9_lifter_117 (by decide) ?_
        obtain ⟨r20, hr21, h⟩ := bd_of h
        refine wd_callV1 (As := [.int p0, .int p1, .int 2]) hC hW 0 wR_c0 rfl (c_X9_planOf l D cy ad X T1 p0 p1 2 r20 hr21) (cwV 3 hts (gu_V w_12_4 w_12_1 w_12_2 w_12_3 w_1_5) rfl rfl rfl hdX9_planOf ⟨Nat.le_of_ble_eq_true rfl, Nat.le_of_ble_eq_true rfl⟩) rfl hl.1 rfl (Nat.le_of_ble_eq_true rfl) ⟨Nat.zero_le _, Nat.zero_le _⟩ dX9_lifter_118 (fun H locs hW => ?_)
        obtain rfl := Option.some.inj h
        exact wd_iret hA hQ hC hr hk hW dX9_lifter_121
      replace h := ite_f h c19
      by_cases c22 : p2 = 5
      · replace h := ite_t h c22
        refine lv_tableIn (tgt := 122) hx hb dX9_lifter_23 (by rw [c22]; decide) (by rw [c22]; decide) (by rw [c22]; rfl) (by decide) ?_
        refine lv_aload_n hx hb dX9_lifter_122 rfl (lv_at hl 0 rfl) ?_
        refine lv_iload_n hx hb dX9_lifter_123 rfl (lv_at hl 1 rfl) ?_
        refine lv_bipush (v := 7) hx hb dX9_lifter_124 (by decide) ?_
        refine lv_iload_n hx hb dX9_lifter_126 rfl (lv_at hl 2 rfl) ?_
        refine lv_iadd hx hb dX9_lifter_127 ?_
        obtain ⟨r23, hr24, h⟩ := bd_of h
        refine wd_callV1 (As := [.int p0, .int (7 + p1)]) hC hW 0 wR_c0 rfl (c_X9_of l D cy ad X T1 p0 (7 + p1) r23 hr24) (cwV 2 hts (gu_V w_12_0 w_11_21 w_11_22 w_11_23 w_1_5) rfl rfl rfl hdX9_of ⟨Nat.le_of_ble_eq_true rfl, Nat.le_of_ble_eq_true rfl⟩) rfl hl.1 rfl (Nat.le_of_ble_eq_true rfl) ⟨Nat.zero_le _, Nat.zero_le _⟩ dX9_lifter_128 (fun H locs hW => ?_)
        obtain rfl := Option.some.inj h
        exact wd_iret hA hQ hC hr hk hW dX9_lifter_131
      replace h := ite_f h c22
      by_cases c25 : p2 = 6
      · replace h := ite_t h c25
        refine lv_tableIn (tgt := 132) hx hb dX9_lifter_23 (by rw [c25]; decide) (by rw [c25]; decide) (by rw [c25]; rfl) (by decide) ?_
        refine lv_aload_n hx hb dX9_lifter_132 rfl (lv_at hl 0 rfl) ?_
        refine lv_iload_n hx hb dX9_lifter_133 rfl (lv_at hl 1 rfl) ?_
        refine lv_iconst (v := 0) hx hb dX9_lifter_134 (by decide) ?_
        obtain ⟨r26, hr27, h⟩ := bd_of h
        refine wd_callV1 (As := [.int p0, .int 0]) hC hW 0 wR_c0 rfl (c_X9_of l D cy ad X T1 p0 0 r26 hr27) (cwV 2 hts (gu_V w_12_0 w_11_21 w_11_22 w_11_23 w_1_5) rfl rfl rfl hdX9_of ⟨Nat.le_of_ble_eq_true rfl, Nat.le_of_ble_eq_true rfl⟩) rfl hl.1 rfl (Nat.le_of_ble_eq_true rfl) ⟨Nat.zero_le _, Nat.zero_le _⟩ dX9_lifter_135 (fun H locs hW => ?_)
        obtain rfl := Option.some.inj h
        exact wd_iret hA hQ hC hr hk hW dX9_lifter_138
      replace h := ite_f h c25
      by_cases c28 : p2 = 7
      · replace h := ite_t h c28
        refine lv_tableIn (tgt := 139) hx hb dX9_lifter_23 (by rw [c28]; decide) (by rw [c28]; decide) (by rw [c28]; rfl) (by decide) ?_
        refine lv_aload_n hx hb dX9_lifter_139 rfl (lv_at hl 0 rfl) ?_
        refine lv_iload_n hx hb dX9_lifter_140 rfl (lv_at hl 1 rfl) ?_
        obtain ⟨r29, hr30, h⟩ := bd_of h
        refine wd_callV1 (As := [.int p0]) hC hW 0 wR_c0 rfl (c_X9_leastOf l D cy ad X T1 p0 r29 hr30) (cwV 1 hts (gu_V w_17_11 w_17_8 w_17_9 w_17_10 w_1_5) rfl rfl rfl hdX9_leastOf ⟨Nat.le_of_ble_eq_true rfl, Nat.le_of_ble_eq_true rfl⟩) rfl hl.1 rfl (Nat.le_of_ble_eq_true rfl) ⟨Nat.zero_le _, Nat.zero_le _⟩ dX9_lifter_141 (fun H locs hW => ?_)
        obtain rfl := Option.some.inj h
        exact wd_iret hA hQ hC hr hk hW dX9_lifter_144
      replace h := ite_f h c28
      by_cases c31 : p2 = 8
      · replace h := ite_t h c31
        refine lv_tableIn (tgt := 145) hx hb dX9_lifter_23 (by rw [c31]; decide) (by rw [c31]; decide) (by rw [c31]; rfl) (by decide) ?_
        refine lv_aload_n hx hb dX9_lifter_145 rfl (lv_at hl 0 rfl) ?_
        refine lv_iload_n hx hb dX9_lifter_146 rfl (lv_at hl 1 rfl) ?_
        refine lv_iconst (v := 5) hx hb dX9_lifter_147 (by decide) ?_
        obtain ⟨r32, hr33, h⟩ := bd_of h
        refine wd_callV1 (As := [.int p0, .int 5]) hC hW 0 wR_c0 rfl (c_X9_of l D cy ad X T1 p0 5 r32 hr33) (cwV 2 hts (gu_V w_12_0 w_11_21 w_11_22 w_11_23 w_1_5) rfl rfl rfl hdX9_of ⟨Nat.le_of_ble_eq_true rfl, Nat.le_of_ble_eq_true rfl⟩) rfl hl.1 rfl (Nat.le_of_ble_eq_true rfl) ⟨Nat.zero_le _, Nat.zero_le _⟩ dX9_lifter_148 (fun H locs hW => ?_)
        obtain rfl := Option.some.inj h
        exact wd_iret hA hQ hC hr hk hW dX9_lifter_151
      replace h := ite_f h c31
      by_cases c34 : p2 = 9
      · replace h := ite_t h c34
        refine lv_tableIn (tgt := 152) hx hb dX9_lifter_23 (by rw [c34]; decide) (by rw [c34]; decide) (by rw [c34]; rfl) (by decide) ?_
        refine lv_aload_n hx hb dX9_lifter_152 rfl (lv_at hl 0 rfl) ?_
        refine lv_iload_n hx hb dX9_lifter_153 rfl (lv_at hl 1 rfl) ?_
        obtain ⟨r35, hr36, h⟩ := bd_of h
        refine wd_callV1 (As := [.int p0]) hC hW 0 wR_c0 rfl (c_X9_isStill l D cy ad X T1 p0 r35 hr36) (cwV 1 hts (gu_V w_17_15 w_17_12 w_17_13 w_17_14 w_1_5) rfl rfl rfl hdX9_isStill ⟨Nat.le_of_ble_eq_true rfl, Nat.le_of_ble_eq_true rfl⟩) rfl hl.1 rfl (Nat.le_of_ble_eq_true rfl) ⟨Nat.zero_le _, Nat.zero_le _⟩ dX9_lifter_154 (fun H locs hW => ?_)
        obtain ⟨r37, hr38, h⟩ := bd_of h
        refine wd_callS1 (As := [.int r35]) hC hW (c_X9_flag l D cy ad X T1 r35 r37 hr38) (va_cwS 1 hts (gu_S w_17_18 w_17_16 w_17_17 w_1_5) rfl rfl rfl hdX9_flag ⟨Nat.le_of_ble_eq_true rfl, Nat.le_of_ble_eq_true rfl⟩) rfl hl.1 rfl (Nat.le_of_ble_eq_true rfl) ⟨Nat.zero_le _, Nat.zero_le _⟩ dX9_lifter_157 (fun H locs hW => ?_)
        obtain rfl := Option.some.inj h
        exact wd_iret hA hQ hC hr hk hW dX9_lifter_160
      replace h := ite_f h c34
      by_cases c39 : p2 = 10
      · replace h := ite_t h c39
        refine lv_tableIn (tgt := 161) hx hb dX9_lifter_23 (by rw [c39]; decide) (by rw [c39]; decide) (by rw [c39]; rfl) (by decide) ?_
        refine lv_aload_n hx hb dX9_lifter_161 rfl (lv_at hl 0 rfl) ?_
        refine lv_iload_n hx hb dX9_lifter_162 rfl (lv_at hl 1 rfl) ?_
        refine lv_bipush (v := 6) hx hb dX9_lifter_163 (by decide) ?_
        obtain ⟨r40, hr41, h⟩ := bd_of h
        refine wd_callV1 (As := [.int p0, .int 6]) hC hW 0 wR_c0 rfl (c_X9_of l D cy ad X T1 p0 6 r40 hr41) (cwV 2 hts (gu_V w_12_0 w_11_21 w_11_22 w_11_23 w_1_5) rfl rfl rfl hdX9_of ⟨Nat.le_of_ble_eq_true rfl, Nat.le_of_ble_eq_true rfl⟩) rfl hl.1 rfl (Nat.le_of_ble_eq_true rfl) ⟨Nat.zero_le _, Nat.zero_le _⟩ dX9_lifter_165 (fun H locs hW => ?_)
        obtain rfl := Option.some.inj h
        exact wd_iret hA hQ hC hr hk hW dX9_lifter_168
      replace h := ite_f h c39
      by_cases c42 : p2 = 11
      · replace h := ite_t h c42
        refine lv_tableIn (tgt := 169) hx hb dX9_lifter_23 (by rw [c42]; decide) (by rw [c42]; decide) (by rw [c42]; rfl) (by decide) ?_
        refine lv_aload_n hx hb dX9_lifter_169 rfl (lv_at hl 0 rfl) ?_
        refine lv_iload_n hx hb dX9_lifter_170 rfl (lv_at hl 1 rfl) ?_
        obtain ⟨r43, hr44, h⟩ := bd_of h
        refine wd_callV1 (As := [.int p0]) hC hW 0 wR_c0 rfl (c_X9_sumOf l D cy ad X T1 p0 r43 hr44) (cwV 1 hts (gu_V w_17_22 w_17_19 w_17_20 w_17_21 w_1_5) rfl rfl rfl hdX9_sumOf ⟨Nat.le_of_ble_eq_true rfl, Nat.le_of_ble_eq_true rfl⟩) rfl hl.1 rfl (Nat.le_of_ble_eq_true rfl) ⟨Nat.zero_le _, Nat.zero_le _⟩ dX9_lifter_171 (fun H locs hW => ?_)
        obtain rfl := Option.some.inj h
        exact wd_iret hA hQ hC hr hk hW dX9_lifter_174
      replace h := ite_f h c42
      have hsw : p2.toInt < 0 ∨ 11 < p2.toInt := by
        have : ¬ p2.toInt = 0 := lv_neT c9 rfl
        have : ¬ p2.toInt = 1 := lv_neT c11 rfl
        have : ¬ p2.toInt = 2 := lv_neT c13 rfl
        have : ¬ p2.toInt = 3 := lv_neT c16 rfl
        have : ¬ p2.toInt = 4 := lv_neT c19 rfl
        have : ¬ p2.toInt = 5 := lv_neT c22 rfl
        have : ¬ p2.toInt = 6 := lv_neT c25 rfl
        have : ¬ p2.toInt = 7 := lv_neT c28 rfl
        have : ¬ p2.toInt = 8 := lv_neT c31 rfl
        have : ¬ p2.toInt = 9 := lv_neT c34 rfl
        have : ¬ p2.toInt = 10 := lv_neT c39 rfl
        have : ¬ p2.toInt = 11 := lv_neT c42 rfl
        omega
      refine lv_tableOut (tgt := 175) hx hb dX9_lifter_23 hsw (by decide) ?_
      refine lv_iconst (v := (-1)) hx hb dX9_lifter_175 (by decide) ?_
      obtain rfl := Option.some.inj h
      exact wd_iret hA hQ hC hr hk hW dX9_lifter_176
    · replace h := ite_t h c8
      refine lv_iconst (v := (-1)) hx hb dX9_lifter_20 (by decide) ?_
      obtain rfl := Option.some.inj h
      exact wd_iret hA hQ hC hr hk hW dX9_lifter_21
def m_X9_called (n : Nat) (T : St) : Option (Int32 × St) :=
  nm (sI T 0 0) (fun T1 => (m_X9_calledNow n T1).bind (fun r3 => if r3 = (-1) then (some ((-2), T1)) else (nm (sI T1 1 0) (fun T6 => (m_X9_of T6 r3 0).bind (fun r8 => (m_X9_notes T6 r8.toInt64).bind (fun r10 => ck 0 63 ((m_X9_of r10 r3 0).bind (fun r13 => (m_X9_of r10 r3 4).bind (fun r15 => (m_X9_oddsOf n r10 r3 (r10.2.1 11 ((0 : Int32).toNatClampNeg)) r13 r15).bind (fun r17 => (m_X9_notes r10 r17.toInt64).bind (fun r19 => some (r3, r19))))))))))))
set_option maxHeartbeats 4000000 in
set_option maxRecDepth 100000 in
theorem c_X9_called (l : Launch) (D : va_G) (cy : Nat → ClassId) (ad : Nat → Nat) (X : va_W) (n : Nat) (T : St) (r : (Int32 × St)) (h : m_X9_called n T = some r) : CT l yX9_called (wu yX9_called cX9_called 2 (some .int)) 4 D cy [.ref (ad 0)] (wR ad cy T ++ X) (some (.int r.1)) (wR ad cy r.2 ++ X) := by
  refine CT.mk (cc := cX9_called) (maxL := 2) (ret := (some .int)) (own := RX9) (by decide) rfl rfl (Nat.le_of_ble_eq_true rfl) ?_
  intro p e s m args below meth c ls A Q hA hQ hC hr hk hW hl
  have hx := hC.1
  have hb := hC.2.1
  have hown := hC.2.2.2.1
  have hts := hC.2.2.2.2
  have hl : lv_has ls 2 [(0, .ref (ad 0))] := hl
  have f77 := hts _ (wu_in w_6_14)
  have i9 := (fun w h => wu_in (inc_9 w h) : ∀ w ∈ u_ws RX9 TX9 40, w ∈ (wu yX9_called cX9_called 2 (some .int)))
  have f81 := hts _ (wu_in w_19_2)
  have f32 := hts _ (wu_in w_5_10)
  unfold m_X9_called at h
  refine lv_aload_n hx hb dX9_called_0 rfl (lv_at hl 0 rfl) ?_
  refine lv_iconst (v := 0) hx hb dX9_called_1 (by decide) ?_
  refine wd_put hC i9 tyX9_ok nmX9 hW 0 wR_c0 rfl 0 (Nat.le_of_ble_eq_true rfl) f77 rfl rfl rfl rfl (Nat.le_of_ble_eq_true rfl) wR_s0_0 dX9_called_2 (fun H locs hW => ?_)
  obtain ⟨T1, e2, h⟩ := nm_of h
  replace hW := wq_T e2 hW
  refine lv_aload_n hx hb dX9_called_5 rfl (lv_at hl 0 rfl) ?_
  obtain ⟨r3, hr4, h⟩ := bd_of h
  refine wd_callV1 (As := []) hC hW 0 wR_c0 rfl (c_X9_calledNow l D cy ad X n T1 r3 hr4) (cwV 0 hts (gu_V w_19_6 w_19_3 w_19_4 w_19_5 w_1_5) rfl rfl rfl hdX9_calledNow ⟨Nat.le_of_ble_eq_true rfl, Nat.le_of_ble_eq_true rfl⟩) rfl hl.1 rfl (Nat.le_of_ble_eq_true rfl) ⟨Nat.zero_le _, Nat.zero_le _⟩ dX9_called_6 (fun H locs hW => ?_)
  refine lv_istore_n (lv' := [(1, .int r3), (0, .ref (ad 0))]) hx hb dX9_called_9 rfl hl (by decide) rfl (fun ls hl => ?_)
  refine lv_iload_n hx hb dX9_called_10 rfl (lv_at hl 0 rfl) ?_
  refine lv_iconst (v := (-1)) hx hb dX9_called_11 (by decide) ?_
  refine lv_icmp_ne (tgt := 18) hx hb dX9_called_12 (by decide) (fun c5 => ?_) (fun c5 => ?_)
  · replace h := ite_f h c5
    refine lv_aload_n hx hb dX9_called_18 rfl (lv_at hl 1 rfl) ?_
    refine lv_iconst (v := 0) hx hb dX9_called_19 (by decide) ?_
    refine wd_put hC i9 tyX9_ok nmX9 hW 0 wR_c0 rfl 1 (Nat.le_of_ble_eq_true rfl) f81 rfl rfl rfl rfl (Nat.le_of_ble_eq_true rfl) wR_s0_1 dX9_called_20 (fun H locs hW => ?_)
    obtain ⟨T6, e7, h⟩ := nm_of h
    replace hW := wq_T e7 hW
    refine lv_aload_n hx hb dX9_called_23 rfl (lv_at hl 1 rfl) ?_
    refine lv_aload_n hx hb dX9_called_24 rfl (lv_at hl 1 rfl) ?_
    refine lv_iload_n hx hb dX9_called_25 rfl (lv_at hl 0 rfl) ?_
    refine lv_iconst (v := 0) hx hb dX9_called_26 (by decide) ?_
    obtain ⟨r8, hr9, h⟩ := bd_of h
    refine wd_callV1 (As := [.int r3, .int 0]) hC hW 0 wR_c0 rfl (c_X9_of l D cy ad X T6 r3 0 r8 hr9) (cwV 2 hts (gu_V w_12_0 w_11_21 w_11_22 w_11_23 w_1_5) rfl rfl rfl hdX9_of ⟨Nat.le_of_ble_eq_true rfl, Nat.le_of_ble_eq_true rfl⟩) rfl hl.1 rfl (Nat.le_of_ble_eq_true rfl) ⟨Nat.zero_le _, Nat.zero_le _⟩ dX9_called_27 (fun H locs hW => ?_)
    refine lv_i2l (v := r8.toInt64) hx hb dX9_called_30 rfl ?_
    obtain ⟨r10, hr11, h⟩ := bd_of h
    refine wd_callV0 (As := [.long r8.toInt64]) hC hW 0 wR_c0 rfl (c_X9_notes l D cy ad X T6 r8.toInt64 r10 hr11) (cwV 1 hts (gu_V w_19_14 w_19_11 w_19_12 w_19_13 w_1_5) rfl rfl rfl hdX9_notes ⟨Nat.le_of_ble_eq_true rfl, Nat.le_of_ble_eq_true rfl⟩) rfl hl.1 rfl (Nat.le_of_ble_eq_true rfl) ⟨Nat.zero_le _, Nat.zero_le _⟩ dX9_called_31 (fun H locs hW => ?_)
    refine lv_aload_n hx hb dX9_called_34 rfl (lv_at hl 1 rfl) ?_
    refine lv_aload_n hx hb dX9_called_35 rfl (lv_at hl 1 rfl) ?_
    refine lv_iload_n hx hb dX9_called_36 rfl (lv_at hl 0 rfl) ?_
    refine lv_aload_n hx hb dX9_called_37 rfl (lv_at hl 1 rfl) ?_
    refine wd_get hC i9 hW 0 wR_c0 rfl 11 (Nat.le_of_ble_eq_true rfl) f32 rfl rfl dX9_called_38 ?_
    refine lv_iconst (v := 0) hx hb dX9_called_41 (by decide) ?_
    obtain ⟨hi12, h⟩ := ck_of h
    refine wd_iald hC hW 8 wR_c8 hi12 dX9_called_42 ?_
    refine lv_aload_n hx hb dX9_called_43 rfl (lv_at hl 1 rfl) ?_
    refine lv_iload_n hx hb dX9_called_44 rfl (lv_at hl 0 rfl) ?_
    refine lv_iconst (v := 0) hx hb dX9_called_45 (by decide) ?_
    obtain ⟨r13, hr14, h⟩ := bd_of h
    refine wd_callV1 (As := [.int r3, .int 0]) hC hW 0 wR_c0 rfl (c_X9_of l D cy ad X r10 r3 0 r13 hr14) (cwV 2 hts (gu_V w_12_0 w_11_21 w_11_22 w_11_23 w_1_5) rfl rfl rfl hdX9_of ⟨Nat.le_of_ble_eq_true rfl, Nat.le_of_ble_eq_true rfl⟩) rfl hl.1 rfl (Nat.le_of_ble_eq_true rfl) ⟨Nat.zero_le _, Nat.zero_le _⟩ dX9_called_46 (fun H locs hW => ?_)
    refine lv_aload_n hx hb dX9_called_49 rfl (lv_at hl 1 rfl) ?_
    refine lv_iload_n hx hb dX9_called_50 rfl (lv_at hl 0 rfl) ?_
    refine lv_iconst (v := 4) hx hb dX9_called_51 (by decide) ?_
    obtain ⟨r15, hr16, h⟩ := bd_of h
    refine wd_callV1 (As := [.int r3, .int 4]) hC hW 0 wR_c0 rfl (c_X9_of l D cy ad X r10 r3 4 r15 hr16) (cwV 2 hts (gu_V w_12_0 w_11_21 w_11_22 w_11_23 w_1_5) rfl rfl rfl hdX9_of ⟨Nat.le_of_ble_eq_true rfl, Nat.le_of_ble_eq_true rfl⟩) rfl hl.1 rfl (Nat.le_of_ble_eq_true rfl) ⟨Nat.zero_le _, Nat.zero_le _⟩ dX9_called_52 (fun H locs hW => ?_)
    obtain ⟨r17, hr18, h⟩ := bd_of h
    refine wd_callV1 (As := [.int r3, .int (r10.2.1 11 ((0 : Int32).toNatClampNeg)), .int r13, .int r15]) hC hW 0 wR_c0 rfl (c_X9_oddsOf l D cy ad X n r10 r3 (r10.2.1 11 ((0 : Int32).toNatClampNeg)) r13 r15 r17 hr18) (cwV 4 hts (gu_V w_15_23 w_15_20 w_15_21 w_15_22 w_1_5) rfl rfl rfl hdX9_oddsOf ⟨Nat.le_of_ble_eq_true rfl, Nat.le_of_ble_eq_true rfl⟩) rfl hl.1 rfl (Nat.le_of_ble_eq_true rfl) ⟨Nat.zero_le _, Nat.zero_le _⟩ dX9_called_55 (fun H locs hW => ?_)
    refine lv_i2l (v := r17.toInt64) hx hb dX9_called_58 rfl ?_
    obtain ⟨r19, hr20, h⟩ := bd_of h
    refine wd_callV0 (As := [.long r17.toInt64]) hC hW 0 wR_c0 rfl (c_X9_notes l D cy ad X r10 r17.toInt64 r19 hr20) (cwV 1 hts (gu_V w_19_14 w_19_11 w_19_12 w_19_13 w_1_5) rfl rfl rfl hdX9_notes ⟨Nat.le_of_ble_eq_true rfl, Nat.le_of_ble_eq_true rfl⟩) rfl hl.1 rfl (Nat.le_of_ble_eq_true rfl) ⟨Nat.zero_le _, Nat.zero_le _⟩ dX9_called_59 (fun H locs hW => ?_)
    refine lv_iload_n hx hb dX9_called_62 rfl (lv_at hl 0 rfl) ?_
    obtain rfl := Option.some.inj h
    exact wd_iret hA hQ hC hr hk hW dX9_called_63
  · replace h := ite_t h c5
    refine lv_bipush (v := (-2)) hx hb dX9_called_15 (by decide) ?_
    obtain rfl := Option.some.inj h
    exact wd_iret hA hQ hC hr hk hW dX9_called_17
def m_X9_calledAhead_L4 : Nat → St → Int32 → Int32 → Int32 → Option (Int32)
  | 0, _, _, _, _ => none
  | n + 1, T, x1, x2, x3 =>
    if (T.1 3) ≤ x3 then (some x2) else (((if x3 = x1 then (some 0) else ((m_X9_isStill T x3).bind (fun r9 => if r9 = 0 then (some 0) else ((m_X9_isCalledAhead T x3 x1).bind (fun r12 => if r12 = 0 then (some 0) else (some 1))))) : Option (Int32))).bind (fun q5 => (m_X9_flag T q5).bind (fun r7 => m_X9_calledAhead_L4 n T x1 (x2 + r7) (x3 + 1))))
theorem m_X9_calledAhead_L4_0 (T : St) (x1 : Int32) (x2 : Int32) (x3 : Int32) : m_X9_calledAhead_L4 0 T x1 x2 x3 = none := rfl
theorem m_X9_calledAhead_L4_s {n : Nat} {T : St} {x1 : Int32} {x2 : Int32} {x3 : Int32} : m_X9_calledAhead_L4 (n + 1) T x1 x2 x3 =
    (if (T.1 3) ≤ x3 then (some x2) else (((if x3 = x1 then (some 0) else ((m_X9_isStill T x3).bind (fun r9 => if r9 = 0 then (some 0) else ((m_X9_isCalledAhead T x3 x1).bind (fun r12 => if r12 = 0 then (some 0) else (some 1))))) : Option (Int32))).bind (fun q5 => (m_X9_flag T q5).bind (fun r7 => m_X9_calledAhead_L4 n T x1 (x2 + r7) (x3 + 1))))) := rfl
def m_X9_calledAhead (n : Nat) (T : St) (p0 : Int32) : Option (Int32) :=
  (m_X9_calledAhead_L4 n T p0 0 0).bind (fun q1 => some q1)
set_option maxHeartbeats 4000000 in
set_option maxRecDepth 100000 in
theorem c_X9_calledAhead (l : Launch) (D : va_G) (cy : Nat → ClassId) (ad : Nat → Nat) (X : va_W) (n : Nat) (T : St) (p0 : Int32) (r : (Int32)) (h : m_X9_calledAhead n T p0 = some r) : CT l yX9_calledAhead (wu yX9_calledAhead cX9_calledAhead 4 (some .int)) 3 D cy [.ref (ad 0), .int p0] (wR ad cy T ++ X) (some (.int r)) (wR ad cy T ++ X) := by
  refine CT.mk (cc := cX9_calledAhead) (maxL := 4) (ret := (some .int)) (own := RX9) (by decide) rfl rfl (Nat.le_of_ble_eq_true rfl) ?_
  intro p e s m args below meth c ls A Q hA hQ hC hr hk hW hl
  have hx := hC.1
  have hb := hC.2.1
  have hown := hC.2.2.2.1
  have hts := hC.2.2.2.2
  have hl : lv_has ls 4 [(0, .ref (ad 0)), (1, .int p0)] := hl
  have f84 := hts _ (wu_in w_9_13)
  have i9 := (fun w h => wu_in (inc_9 w h) : ∀ w ∈ u_ws RX9 TX9 40, w ∈ (wu yX9_calledAhead cX9_calledAhead 4 (some .int)))
  unfold m_X9_calledAhead at h
  refine lv_iconst (v := 0) hx hb dX9_calledAhead_0 (by decide) ?_
  refine lv_istore_n (lv' := [(2, .int 0), (0, .ref (ad 0)), (1, .int p0)]) hx hb dX9_calledAhead_1 rfl hl (by decide) rfl (fun ls hl => ?_)
  refine lv_iconst (v := 0) hx hb dX9_calledAhead_2 (by decide) ?_
  refine lv_istore_n (lv' := [(3, .int 0), (2, .int 0), (0, .ref (ad 0)), (1, .int p0)]) hx hb dX9_calledAhead_3 rfl hl (by decide) rfl (fun ls hl => ?_)
  have hL4 : ∀ (n : Nat) (x1 : Int32) (x2 : Int32) (x3 : Int32)  (H : Heap) (locs : List Loc) (ls : Array Slot) (r : (Int32)), m_X9_calledAhead_L4 n T x1 x2 x3 = some r → Wd D cy A s (wR ad cy T ++ X) H locs → lv_has ls 4 [(0, .ref (ad 0)), (1, .int x1), (2, .int x2), (3, .int x3)] → (∀ (H : Heap) (locs : List Loc) (ls : Array Slot), Wd D cy A s (wR ad cy T ++ X) H locs → lv_has ls 4 [(0, .ref (ad 0)), (1, .int x1), (2, .int r)] → W p l e (RM 3) s m args below meth c H locs 0 0 Q (F0 m 51 ls [])) → W p l e (RM 3) s m args below meth c H locs 0 0 Q (F0 m 4 ls []) := by
    intro n
    induction n with
    | zero =>
      intro x1 x2 x3  H locs ls r h
      exact absurd (h.symm.trans (m_X9_calledAhead_L4_0 ..)) (by simp)
    | succ n ih =>
      intro x1 x2 x3  H locs ls r h hW hl kk
      rw [m_X9_calledAhead_L4_s] at h
      refine lv_iload_n hx hb dX9_calledAhead_4 rfl (lv_at hl 3 rfl) ?_
      refine lv_aload_n hx hb dX9_calledAhead_5 rfl (lv_at hl 0 rfl) ?_
      refine wd_get hC i9 hW 0 wR_c0 rfl 3 (Nat.le_of_ble_eq_true rfl) f84 rfl rfl dX9_calledAhead_6 ?_
      refine lv_icmp_ge (tgt := 51) hx hb dX9_calledAhead_9 (by decide) (fun c3 => ?_) (fun c3 => ?_)
      · replace h := ite_t h c3
        obtain rfl := Option.some.inj h
        exact kk _ _ _ hW (lv_sub hl [0, 1, 2] rfl)
      · replace h := ite_f h c3
        refine lv_iload_n hx hb dX9_calledAhead_12 rfl (lv_at hl 2 rfl) ?_
        refine lv_iload_n hx hb dX9_calledAhead_13 rfl (lv_at hl 3 rfl) ?_
        refine lv_iload_n hx hb dX9_calledAhead_14 rfl (lv_at hl 1 rfl) ?_
        obtain ⟨q5, hq6, h⟩ := bd_of h
        have hJ40 : ∀ (H : Heap) (locs : List Loc) (ls : Array Slot), Wd D cy A s (wR ad cy T ++ X) H locs → lv_has ls 4 [(0, .ref (ad 0)), (1, .int x1), (2, .int x2), (3, .int x3)] → W p l e (RM 3) s m args below meth c H locs 0 0 Q (F0 m 40 ls [.int q5, .int x2]) := by
          intro H locs ls hW hl
          obtain ⟨r7, hr8, h⟩ := bd_of h
          refine wd_callS1 (As := [.int q5]) hC hW (c_X9_flag l D cy ad X T q5 r7 hr8) (va_cwS 1 hts (gu_S w_17_18 w_17_16 w_17_17 w_1_5) rfl rfl rfl hdX9_flag ⟨Nat.le_of_ble_eq_true rfl, Nat.le_of_ble_eq_true rfl⟩) rfl hl.1 rfl (Nat.le_of_ble_eq_true rfl) ⟨Nat.zero_le _, Nat.zero_le _⟩ dX9_calledAhead_40 (fun H locs hW => ?_)
          refine lv_iadd hx hb dX9_calledAhead_43 ?_
          refine lv_istore_n (lv' := [(2, .int (x2 + r7)), (0, .ref (ad 0)), (1, .int x1), (3, .int x3)]) hx hb dX9_calledAhead_44 rfl hl (by decide) rfl (fun ls hl => ?_)
          refine lv_iinc (v := x3 + 1) (lv' := [(3, .int (x3 + 1)), (2, .int (x2 + r7)), (0, .ref (ad 0)), (1, .int x1)]) hx hb dX9_calledAhead_45 hl (k := 3) rfl rfl (by decide) rfl (fun ls hl => ?_)
          refine lv_goto (tgt := 4) hx hb dX9_calledAhead_48 (by decide) ?_
          exact ih x1 (x2 + r7) (x3 + 1) _ _ _ r h hW (lv_sub hl [2, 3, 1, 0] rfl) kk
        replace h := hq6
        refine lv_icmp_eq (tgt := 39) hx hb dX9_calledAhead_15 (by decide) (fun c4 => ?_) (fun c4 => ?_)
        · replace h := ite_t h c4
          refine lv_iconst (v := 0) hx hb dX9_calledAhead_39 (by decide) ?_
          obtain rfl := Option.some.inj h
          exact hJ40 _ _ _ hW (lv_sub hl [0, 1, 2, 3] rfl)
        · replace h := ite_f h c4
          refine lv_aload_n hx hb dX9_calledAhead_18 rfl (lv_at hl 0 rfl) ?_
          refine lv_iload_n hx hb dX9_calledAhead_19 rfl (lv_at hl 3 rfl) ?_
          obtain ⟨r9, hr10, h⟩ := bd_of h
          refine wd_callV1 (As := [.int x3]) hC hW 0 wR_c0 rfl (c_X9_isStill l D cy ad X T x3 r9 hr10) (cwV 1 hts (gu_V w_17_15 w_17_12 w_17_13 w_17_14 w_1_5) rfl rfl rfl hdX9_isStill ⟨Nat.le_of_ble_eq_true rfl, Nat.le_of_ble_eq_true rfl⟩) rfl hl.1 rfl (Nat.le_of_ble_eq_true rfl) ⟨Nat.zero_le _, Nat.zero_le _⟩ dX9_calledAhead_20 (fun H locs hW => ?_)
          refine lv_if_eq (tgt := 39) hx hb dX9_calledAhead_23 (by decide) (fun c11 => ?_) (fun c11 => ?_)
          · replace h := ite_t h c11
            refine lv_iconst (v := 0) hx hb dX9_calledAhead_39 (by decide) ?_
            obtain rfl := Option.some.inj h
            exact hJ40 _ _ _ hW (lv_sub hl [0, 1, 2, 3] rfl)
          · replace h := ite_f h c11
            refine lv_aload_n hx hb dX9_calledAhead_26 rfl (lv_at hl 0 rfl) ?_
            refine lv_iload_n hx hb dX9_calledAhead_27 rfl (lv_at hl 3 rfl) ?_
            refine lv_iload_n hx hb dX9_calledAhead_28 rfl (lv_at hl 1 rfl) ?_
            obtain ⟨r12, hr13, h⟩ := bd_of h
            refine wd_callV1 (As := [.int x3, .int x1]) hC hW 0 wR_c0 rfl (c_X9_isCalledAhead l D cy ad X T x3 x1 r12 hr13) (cwV 2 hts (gu_V w_19_10 w_19_7 w_19_8 w_19_9 w_1_5) rfl rfl rfl hdX9_isCalledAhead ⟨Nat.le_of_ble_eq_true rfl, Nat.le_of_ble_eq_true rfl⟩) rfl hl.1 rfl (Nat.le_of_ble_eq_true rfl) ⟨Nat.zero_le _, Nat.zero_le _⟩ dX9_calledAhead_29 (fun H locs hW => ?_)
            refine lv_if_eq (tgt := 39) hx hb dX9_calledAhead_32 (by decide) (fun c14 => ?_) (fun c14 => ?_)
            · replace h := ite_t h c14
              refine lv_iconst (v := 0) hx hb dX9_calledAhead_39 (by decide) ?_
              obtain rfl := Option.some.inj h
              exact hJ40 _ _ _ hW (lv_sub hl [0, 1, 2, 3] rfl)
            · replace h := ite_f h c14
              refine lv_iconst (v := 1) hx hb dX9_calledAhead_35 (by decide) ?_
              refine lv_goto (tgt := 40) hx hb dX9_calledAhead_36 (by decide) ?_
              obtain rfl := Option.some.inj h
              exact hJ40 _ _ _ hW (lv_sub hl [0, 1, 2, 3] rfl)
  obtain ⟨q1, hq2, h⟩ := bd_of h
  refine hL4 n p0 0 0  _ _ _ q1 hq2 hW (lv_sub hl [2, 3, 1, 0] rfl) (fun H locs ls hW hl => ?_)
  refine lv_iload_n hx hb dX9_calledAhead_51 rfl (lv_at hl 2 rfl) ?_
  obtain rfl := Option.some.inj h
  exact wd_iret hA hQ hC hr hk hW dX9_calledAhead_52
def m_X9_order_L22 : Nat → St → Int32 → Int32 → Option (St)
  | 0, _, _, _ => none
  | n + 1, T, x1, x2 =>
    if (T.1 3) ≤ x2 then (some T) else ((m_X9_isStill T x2).bind (fun r11 => if r11 = 0 then (m_X9_order_L22 n T x1 (x2 + 1)) else ((m_X9_calledAhead n T x2).bind (fun r14 => if r14 = x1 then ((m_X9_notes T x2.toInt64).bind (fun r17 => m_X9_order_L22 n r17 x1 (x2 + 1))) else (m_X9_order_L22 n T x1 (x2 + 1))))))
theorem m_X9_order_L22_0 (T : St) (x1 : Int32) (x2 : Int32) : m_X9_order_L22 0 T x1 x2 = none := rfl
theorem m_X9_order_L22_s {n : Nat} {T : St} {x1 : Int32} {x2 : Int32} : m_X9_order_L22 (n + 1) T x1 x2 =
    (if (T.1 3) ≤ x2 then (some T) else ((m_X9_isStill T x2).bind (fun r11 => if r11 = 0 then (m_X9_order_L22 n T x1 (x2 + 1)) else ((m_X9_calledAhead n T x2).bind (fun r14 => if r14 = x1 then ((m_X9_notes T x2.toInt64).bind (fun r17 => m_X9_order_L22 n r17 x1 (x2 + 1))) else (m_X9_order_L22 n T x1 (x2 + 1))))))) := rfl
def m_X9_order_L12 : Nat → St → Int32 → Option (St)
  | 0, _, _ => none
  | n + 1, T, x1 =>
    if (T.1 3) ≤ x1 then (some T) else ((m_X9_order_L22 n T x1 0).bind (fun q8 => m_X9_order_L12 n q8 (x1 + 1)))
theorem m_X9_order_L12_0 (T : St) (x1 : Int32) : m_X9_order_L12 0 T x1 = none := rfl
theorem m_X9_order_L12_s {n : Nat} {T : St} {x1 : Int32} : m_X9_order_L12 (n + 1) T x1 =
    (if (T.1 3) ≤ x1 then (some T) else ((m_X9_order_L22 n T x1 0).bind (fun q8 => m_X9_order_L12 n q8 (x1 + 1)))) := rfl
def m_X9_order (n : Nat) (T : St) : Option (Int32 × St) :=
  nm (sI T 0 0) (fun T1 => nm (sI T1 1 0) (fun T3 => (m_X9_order_L12 n T3 0).bind (fun q5 => some (q5.1 1, q5))))
set_option maxHeartbeats 4000000 in
set_option maxRecDepth 100000 in
theorem c_X9_order (l : Launch) (D : va_G) (cy : Nat → ClassId) (ad : Nat → Nat) (X : va_W) (n : Nat) (T : St) (r : (Int32 × St)) (h : m_X9_order n T = some r) : CT l yX9_order (wu yX9_order cX9_order 3 (some .int)) 4 D cy [.ref (ad 0)] (wR ad cy T ++ X) (some (.int r.1)) (wR ad cy r.2 ++ X) := by
  refine CT.mk (cc := cX9_order) (maxL := 3) (ret := (some .int)) (own := RX9) (by decide) rfl rfl (Nat.le_of_ble_eq_true rfl) ?_
  intro p e s m args below meth c ls A Q hA hQ hC hr hk hW hl
  have hx := hC.1
  have hb := hC.2.1
  have hown := hC.2.2.2.1
  have hts := hC.2.2.2.2
  have hl : lv_has ls 3 [(0, .ref (ad 0))] := hl
  have f77 := hts _ (wu_in w_6_14)
  have i9 := (fun w h => wu_in (inc_9 w h) : ∀ w ∈ u_ws RX9 TX9 40, w ∈ (wu yX9_order cX9_order 3 (some .int)))
  have f81 := hts _ (wu_in w_19_2)
  have f84 := hts _ (wu_in w_9_13)
  unfold m_X9_order at h
  refine lv_aload_n hx hb dX9_order_0 rfl (lv_at hl 0 rfl) ?_
  refine lv_iconst (v := 0) hx hb dX9_order_1 (by decide) ?_
  refine wd_put hC i9 tyX9_ok nmX9 hW 0 wR_c0 rfl 0 (Nat.le_of_ble_eq_true rfl) f77 rfl rfl rfl rfl (Nat.le_of_ble_eq_true rfl) wR_s0_0 dX9_order_2 (fun H locs hW => ?_)
  obtain ⟨T1, e2, h⟩ := nm_of h
  replace hW := wq_T e2 hW
  refine lv_aload_n hx hb dX9_order_5 rfl (lv_at hl 0 rfl) ?_
  refine lv_iconst (v := 0) hx hb dX9_order_6 (by decide) ?_
  refine wd_put hC i9 tyX9_ok nmX9 hW 0 wR_c0 rfl 1 (Nat.le_of_ble_eq_true rfl) f81 rfl rfl rfl rfl (Nat.le_of_ble_eq_true rfl) wR_s0_1 dX9_order_7 (fun H locs hW => ?_)
  obtain ⟨T3, e4, h⟩ := nm_of h
  replace hW := wq_T e4 hW
  refine lv_iconst (v := 0) hx hb dX9_order_10 (by decide) ?_
  refine lv_istore_n (lv' := [(1, .int 0), (0, .ref (ad 0))]) hx hb dX9_order_11 rfl hl (by decide) rfl (fun ls hl => ?_)
  have hL12 : ∀ (n : Nat) (T : St) (x1 : Int32)  (H : Heap) (locs : List Loc) (ls : Array Slot) (r : (St)), m_X9_order_L12 n T x1 = some r → Wd D cy A s (wR ad cy T ++ X) H locs → lv_has ls 3 [(0, .ref (ad 0)), (1, .int x1)] → (∀ (H : Heap) (locs : List Loc) (ls : Array Slot), Wd D cy A s (wR ad cy r ++ X) H locs → lv_has ls 3 [(0, .ref (ad 0))] → W p l e (RM 4) s m args below meth c H locs 0 0 Q (F0 m 65 ls [])) → W p l e (RM 4) s m args below meth c H locs 0 0 Q (F0 m 12 ls []) := by
    intro n
    induction n with
    | zero =>
      intro T x1  H locs ls r h
      exact absurd (h.symm.trans (m_X9_order_L12_0 ..)) (by simp)
    | succ n ih =>
      intro T x1  H locs ls r h hW hl kk
      rw [m_X9_order_L12_s] at h
      refine lv_iload_n hx hb dX9_order_12 rfl (lv_at hl 1 rfl) ?_
      refine lv_aload_n hx hb dX9_order_13 rfl (lv_at hl 0 rfl) ?_
      refine wd_get hC i9 hW 0 wR_c0 rfl 3 (Nat.le_of_ble_eq_true rfl) f84 rfl rfl dX9_order_14 ?_
      refine lv_icmp_ge (tgt := 65) hx hb dX9_order_17 (by decide) (fun c7 => ?_) (fun c7 => ?_)
      · replace h := ite_t h c7
        obtain rfl := Option.some.inj h
        exact kk _ _ _ hW (lv_sub hl [0] rfl)
      · replace h := ite_f h c7
        refine lv_iconst (v := 0) hx hb dX9_order_20 (by decide) ?_
        refine lv_istore_n (lv' := [(2, .int 0), (0, .ref (ad 0)), (1, .int x1)]) hx hb dX9_order_21 rfl hl (by decide) rfl (fun ls hl => ?_)
        have hL22 : ∀ (n : Nat) (T : St) (x1 : Int32) (x2 : Int32)  (H : Heap) (locs : List Loc) (ls : Array Slot) (r : (St)), m_X9_order_L22 n T x1 x2 = some r → Wd D cy A s (wR ad cy T ++ X) H locs → lv_has ls 3 [(0, .ref (ad 0)), (1, .int x1), (2, .int x2)] → (∀ (H : Heap) (locs : List Loc) (ls : Array Slot), Wd D cy A s (wR ad cy r ++ X) H locs → lv_has ls 3 [(0, .ref (ad 0)), (1, .int x1)] → W p l e (RM 4) s m args below meth c H locs 0 0 Q (F0 m 59 ls [])) → W p l e (RM 4) s m args below meth c H locs 0 0 Q (F0 m 22 ls []) := by
          intro n
          induction n with
          | zero =>
            intro T x1 x2  H locs ls r h
            exact absurd (h.symm.trans (m_X9_order_L22_0 ..)) (by simp)
          | succ n ih =>
            intro T x1 x2  H locs ls r h hW hl kk
            rw [m_X9_order_L22_s] at h
            refine lv_iload_n hx hb dX9_order_22 rfl (lv_at hl 2 rfl) ?_
            refine lv_aload_n hx hb dX9_order_23 rfl (lv_at hl 0 rfl) ?_
            refine wd_get hC i9 hW 0 wR_c0 rfl 3 (Nat.le_of_ble_eq_true rfl) f84 rfl rfl dX9_order_24 ?_
            refine lv_icmp_ge (tgt := 59) hx hb dX9_order_27 (by decide) (fun c10 => ?_) (fun c10 => ?_)
            · replace h := ite_t h c10
              obtain rfl := Option.some.inj h
              exact kk _ _ _ hW (lv_sub hl [0, 1] rfl)
            · replace h := ite_f h c10
              refine lv_aload_n hx hb dX9_order_30 rfl (lv_at hl 0 rfl) ?_
              refine lv_iload_n hx hb dX9_order_31 rfl (lv_at hl 2 rfl) ?_
              obtain ⟨r11, hr12, h⟩ := bd_of h
              refine wd_callV1 (As := [.int x2]) hC hW 0 wR_c0 rfl (c_X9_isStill l D cy ad X T x2 r11 hr12) (cwV 1 hts (gu_V w_17_15 w_17_12 w_17_13 w_17_14 w_1_5) rfl rfl rfl hdX9_isStill ⟨Nat.le_of_ble_eq_true rfl, Nat.le_of_ble_eq_true rfl⟩) rfl hl.1 rfl (Nat.le_of_ble_eq_true rfl) ⟨Nat.zero_le _, Nat.zero_le _⟩ dX9_order_32 (fun H locs hW => ?_)
              refine lv_if_eq (tgt := 53) hx hb dX9_order_35 (by decide) (fun c13 => ?_) (fun c13 => ?_)
              · replace h := ite_t h c13
                refine lv_iinc (v := x2 + 1) (lv' := [(2, .int (x2 + 1)), (0, .ref (ad 0)), (1, .int x1)]) hx hb dX9_order_53 hl (k := 2) rfl rfl (by decide) rfl (fun ls hl => ?_)
                refine lv_goto (tgt := 22) hx hb dX9_order_56 (by decide) ?_
                exact ih T x1 (x2 + 1) _ _ _ r h hW (lv_sub hl [1, 2, 0] rfl) kk
              · replace h := ite_f h c13
                refine lv_aload_n hx hb dX9_order_38 rfl (lv_at hl 0 rfl) ?_
                refine lv_iload_n hx hb dX9_order_39 rfl (lv_at hl 2 rfl) ?_
                obtain ⟨r14, hr15, h⟩ := bd_of h
                refine wd_callV1 (As := [.int x2]) hC hW 0 wR_c0 rfl (c_X9_calledAhead l D cy ad X n T x2 r14 hr15) (cwV 1 hts (gu_V w_20_3 w_20_0 w_20_1 w_20_2 w_1_5) rfl rfl rfl hdX9_calledAhead ⟨Nat.le_of_ble_eq_true rfl, Nat.le_of_ble_eq_true rfl⟩) rfl hl.1 rfl (Nat.le_of_ble_eq_true rfl) ⟨Nat.zero_le _, Nat.zero_le _⟩ dX9_order_40 (fun H locs hW => ?_)
                refine lv_iload_n hx hb dX9_order_43 rfl (lv_at hl 1 rfl) ?_
                refine lv_icmp_ne (tgt := 53) hx hb dX9_order_44 (by decide) (fun c16 => ?_) (fun c16 => ?_)
                · replace h := ite_f h c16
                  refine lv_iinc (v := x2 + 1) (lv' := [(2, .int (x2 + 1)), (0, .ref (ad 0)), (1, .int x1)]) hx hb dX9_order_53 hl (k := 2) rfl rfl (by decide) rfl (fun ls hl => ?_)
                  refine lv_goto (tgt := 22) hx hb dX9_order_56 (by decide) ?_
                  exact ih T x1 (x2 + 1) _ _ _ r h hW (lv_sub hl [1, 2, 0] rfl) kk
                · replace h := ite_t h c16
                  refine lv_aload_n hx hb dX9_order_47 rfl (lv_at hl 0 rfl) ?_
                  refine lv_iload_n hx hb dX9_order_48 rfl (lv_at hl 2 rfl) ?_
                  refine lv_i2l (v := x2.toInt64) hx hb dX9_order_49 rfl ?_
                  obtain ⟨r17, hr18, h⟩ := bd_of h
                  refine wd_callV0 (As := [.long x2.toInt64]) hC hW 0 wR_c0 rfl (c_X9_notes l D cy ad X T x2.toInt64 r17 hr18) (cwV 1 hts (gu_V w_19_14 w_19_11 w_19_12 w_19_13 w_1_5) rfl rfl rfl hdX9_notes ⟨Nat.le_of_ble_eq_true rfl, Nat.le_of_ble_eq_true rfl⟩) rfl hl.1 rfl (Nat.le_of_ble_eq_true rfl) ⟨Nat.zero_le _, Nat.zero_le _⟩ dX9_order_50 (fun H locs hW => ?_)
                  refine lv_iinc (v := x2 + 1) (lv' := [(2, .int (x2 + 1)), (0, .ref (ad 0)), (1, .int x1)]) hx hb dX9_order_53 hl (k := 2) rfl rfl (by decide) rfl (fun ls hl => ?_)
                  refine lv_goto (tgt := 22) hx hb dX9_order_56 (by decide) ?_
                  exact ih r17 x1 (x2 + 1) _ _ _ r h hW (lv_sub hl [1, 2, 0] rfl) kk
        obtain ⟨q8, hq9, h⟩ := bd_of h
        refine hL22 n T x1 0  _ _ _ q8 hq9 hW (lv_sub hl [1, 2, 0] rfl) (fun H locs ls hW hl => ?_)
        refine lv_iinc (v := x1 + 1) (lv' := [(1, .int (x1 + 1)), (0, .ref (ad 0))]) hx hb dX9_order_59 hl (k := 1) rfl rfl (by decide) rfl (fun ls hl => ?_)
        refine lv_goto (tgt := 12) hx hb dX9_order_62 (by decide) ?_
        exact ih q8 (x1 + 1) _ _ _ r h hW (lv_sub hl [1, 0] rfl) kk
  obtain ⟨q5, hq6, h⟩ := bd_of h
  refine hL12 n T3 0  _ _ _ q5 hq6 hW (lv_sub hl [1, 0] rfl) (fun H locs ls hW hl => ?_)
  refine lv_aload_n hx hb dX9_order_65 rfl (lv_at hl 0 rfl) ?_
  refine wd_get hC i9 hW 0 wR_c0 rfl 1 (Nat.le_of_ble_eq_true rfl) f81 rfl rfl dX9_order_66 ?_
  obtain rfl := Option.some.inj h
  exact wd_iret hA hQ hC hr hk hW dX9_order_69
def m_X9_asks (T : St) (p0 : Int32) (p1 : Int32) : Option (Int32 × St) :=
  nm (sI T 0 0) (fun T1 => (m_X9_isLifter T1 p0).bind (fun r3 => if r3 = 0 then (some ((-1), T1)) else ((m_X9_in T1 p1.toInt64 1 40).bind (fun r6 => if r6 = 0 then (some ((-1), T1)) else ((m_X9_isStill T1 p0).bind (fun r9 => if r9 = 0 then (some ((-2), T1)) else ((m_X9_of T1 p0 5).bind (fun r12 => if r12 = 0 then (some ((-3), T1)) else ((m_X9_leastOf T1 p0).bind (fun r15 => if p1 < r15 then (some ((-4), T1)) else ((m_X9_of T1 p0 0).bind (fun r18 => if p1 = r18 then (some ((-4), T1)) else ((m_X9_sets T1 p0 0 p1).bind (fun r21 => (m_X9_of r21 p0 5).bind (fun r23 => (m_X9_sets r21 p0 5 (r23 - 1)).bind (fun r25 => (m_X9_of r25 p0 5).bind (fun r27 => some (r27, r25))))))))))))))))))
set_option maxHeartbeats 4000000 in
set_option maxRecDepth 100000 in
theorem c_X9_asks (l : Launch) (D : va_G) (cy : Nat → ClassId) (ad : Nat → Nat) (X : va_W) (T : St) (p0 : Int32) (p1 : Int32) (r : (Int32 × St)) (h : m_X9_asks T p0 p1 = some r) : CT l yX9_asks (wu yX9_asks cX9_asks 3 (some .int)) 3 D cy [.ref (ad 0), .int p0, .int p1] (wR ad cy T ++ X) (some (.int r.1)) (wR ad cy r.2 ++ X) := by
  refine CT.mk (cc := cX9_asks) (maxL := 3) (ret := (some .int)) (own := RX9) (by decide) rfl rfl (Nat.le_of_ble_eq_true rfl) ?_
  intro p e s m args below meth c ls A Q hA hQ hC hr hk hW hl
  have hx := hC.1
  have hb := hC.2.1
  have hown := hC.2.2.2.1
  have hts := hC.2.2.2.2
  have hl : lv_has ls 3 [(0, .ref (ad 0)), (1, .int p0), (2, .int p1)] := hl
  have f77 := hts _ (wu_in w_6_14)
  have i9 := (fun w h => wu_in (inc_9 w h) : ∀ w ∈ u_ws RX9 TX9 40, w ∈ (wu yX9_asks cX9_asks 3 (some .int)))
  have k239 := hts _ (wu_in w_14_0)
  unfold m_X9_asks at h
  refine lv_aload_n hx hb dX9_asks_0 rfl (lv_at hl 0 rfl) ?_
  refine lv_iconst (v := 0) hx hb dX9_asks_1 (by decide) ?_
  refine wd_put hC i9 tyX9_ok nmX9 hW 0 wR_c0 rfl 0 (Nat.le_of_ble_eq_true rfl) f77 rfl rfl rfl rfl (Nat.le_of_ble_eq_true rfl) wR_s0_0 dX9_asks_2 (fun H locs hW => ?_)
  obtain ⟨T1, e2, h⟩ := nm_of h
  replace hW := wq_T e2 hW
  refine lv_aload_n hx hb dX9_asks_5 rfl (lv_at hl 0 rfl) ?_
  refine lv_iload_n hx hb dX9_asks_6 rfl (lv_at hl 1 rfl) ?_
  obtain ⟨r3, hr4, h⟩ := bd_of h
  refine wd_callV1 (As := [.int p0]) hC hW 0 wR_c0 rfl (c_X9_isLifter l D cy ad X T1 p0 r3 hr4) (cwV 1 hts (gu_V w_14_5 w_14_2 w_14_3 w_14_4 w_1_5) rfl rfl rfl hdX9_isLifter ⟨Nat.le_of_ble_eq_true rfl, Nat.le_of_ble_eq_true rfl⟩) rfl hl.1 rfl (Nat.le_of_ble_eq_true rfl) ⟨Nat.zero_le _, Nat.zero_le _⟩ dX9_asks_7 (fun H locs hW => ?_)
  refine lv_if_eq (tgt := 25) hx hb dX9_asks_10 (by decide) (fun c5 => ?_) (fun c5 => ?_)
  · replace h := ite_t h c5
    refine lv_iconst (v := (-1)) hx hb dX9_asks_25 (by decide) ?_
    obtain rfl := Option.some.inj h
    exact wd_iret hA hQ hC hr hk hW dX9_asks_26
  · replace h := ite_f h c5
    refine lv_iload_n hx hb dX9_asks_13 rfl (lv_at hl 2 rfl) ?_
    refine lv_i2l (v := p1.toInt64) hx hb dX9_asks_14 rfl ?_
    refine lv_lconst (v := 1) hx hb dX9_asks_15 (by decide) ?_
    refine lv_ldc2 hx hb hown k239 dX9_asks_16 ?_
    obtain ⟨r6, hr7, h⟩ := bd_of h
    refine wd_callS1 (As := [.long p1.toInt64, .long 1, .long 40]) hC hW (c_X9_in l D cy ad X T1 p1.toInt64 1 40 r6 hr7) (va_cwS 3 hts (gu_S w_7_6 w_7_4 w_7_5 w_1_5) rfl rfl rfl hdX9_in ⟨Nat.le_of_ble_eq_true rfl, Nat.le_of_ble_eq_true rfl⟩) rfl hl.1 rfl (Nat.le_of_ble_eq_true rfl) ⟨Nat.zero_le _, Nat.zero_le _⟩ dX9_asks_19 (fun H locs hW => ?_)
    refine lv_if_ne (tgt := 27) hx hb dX9_asks_22 (by decide) (fun c8 => ?_) (fun c8 => ?_)
    · replace h := ite_f h c8
      refine lv_aload_n hx hb dX9_asks_27 rfl (lv_at hl 0 rfl) ?_
      refine lv_iload_n hx hb dX9_asks_28 rfl (lv_at hl 1 rfl) ?_
      obtain ⟨r9, hr10, h⟩ := bd_of h
      refine wd_callV1 (As := [.int p0]) hC hW 0 wR_c0 rfl (c_X9_isStill l D cy ad X T1 p0 r9 hr10) (cwV 1 hts (gu_V w_17_15 w_17_12 w_17_13 w_17_14 w_1_5) rfl rfl rfl hdX9_isStill ⟨Nat.le_of_ble_eq_true rfl, Nat.le_of_ble_eq_true rfl⟩) rfl hl.1 rfl (Nat.le_of_ble_eq_true rfl) ⟨Nat.zero_le _, Nat.zero_le _⟩ dX9_asks_29 (fun H locs hW => ?_)
      refine lv_if_ne (tgt := 38) hx hb dX9_asks_32 (by decide) (fun c11 => ?_) (fun c11 => ?_)
      · replace h := ite_f h c11
        refine lv_aload_n hx hb dX9_asks_38 rfl (lv_at hl 0 rfl) ?_
        refine lv_iload_n hx hb dX9_asks_39 rfl (lv_at hl 1 rfl) ?_
        refine lv_iconst (v := 5) hx hb dX9_asks_40 (by decide) ?_
        obtain ⟨r12, hr13, h⟩ := bd_of h
        refine wd_callV1 (As := [.int p0, .int 5]) hC hW 0 wR_c0 rfl (c_X9_of l D cy ad X T1 p0 5 r12 hr13) (cwV 2 hts (gu_V w_12_0 w_11_21 w_11_22 w_11_23 w_1_5) rfl rfl rfl hdX9_of ⟨Nat.le_of_ble_eq_true rfl, Nat.le_of_ble_eq_true rfl⟩) rfl hl.1 rfl (Nat.le_of_ble_eq_true rfl) ⟨Nat.zero_le _, Nat.zero_le _⟩ dX9_asks_41 (fun H locs hW => ?_)
        refine lv_if_ne (tgt := 50) hx hb dX9_asks_44 (by decide) (fun c14 => ?_) (fun c14 => ?_)
        · replace h := ite_f h c14
          refine lv_iload_n hx hb dX9_asks_50 rfl (lv_at hl 2 rfl) ?_
          refine lv_aload_n hx hb dX9_asks_51 rfl (lv_at hl 0 rfl) ?_
          refine lv_iload_n hx hb dX9_asks_52 rfl (lv_at hl 1 rfl) ?_
          obtain ⟨r15, hr16, h⟩ := bd_of h
          refine wd_callV1 (As := [.int p0]) hC hW 0 wR_c0 rfl (c_X9_leastOf l D cy ad X T1 p0 r15 hr16) (cwV 1 hts (gu_V w_17_11 w_17_8 w_17_9 w_17_10 w_1_5) rfl rfl rfl hdX9_leastOf ⟨Nat.le_of_ble_eq_true rfl, Nat.le_of_ble_eq_true rfl⟩) rfl hl.1 rfl (Nat.le_of_ble_eq_true rfl) ⟨Nat.zero_le _, Nat.zero_le _⟩ dX9_asks_53 (fun H locs hW => ?_)
          refine lv_icmp_lt (tgt := 69) hx hb dX9_asks_56 (by decide) (fun c17 => ?_) (fun c17 => ?_)
          · replace h := ite_t h c17
            refine lv_bipush (v := (-4)) hx hb dX9_asks_69 (by decide) ?_
            obtain rfl := Option.some.inj h
            exact wd_iret hA hQ hC hr hk hW dX9_asks_71
          · replace h := ite_f h c17
            refine lv_iload_n hx hb dX9_asks_59 rfl (lv_at hl 2 rfl) ?_
            refine lv_aload_n hx hb dX9_asks_60 rfl (lv_at hl 0 rfl) ?_
            refine lv_iload_n hx hb dX9_asks_61 rfl (lv_at hl 1 rfl) ?_
            refine lv_iconst (v := 0) hx hb dX9_asks_62 (by decide) ?_
            obtain ⟨r18, hr19, h⟩ := bd_of h
            refine wd_callV1 (As := [.int p0, .int 0]) hC hW 0 wR_c0 rfl (c_X9_of l D cy ad X T1 p0 0 r18 hr19) (cwV 2 hts (gu_V w_12_0 w_11_21 w_11_22 w_11_23 w_1_5) rfl rfl rfl hdX9_of ⟨Nat.le_of_ble_eq_true rfl, Nat.le_of_ble_eq_true rfl⟩) rfl hl.1 rfl (Nat.le_of_ble_eq_true rfl) ⟨Nat.zero_le _, Nat.zero_le _⟩ dX9_asks_63 (fun H locs hW => ?_)
            refine lv_icmp_ne (tgt := 72) hx hb dX9_asks_66 (by decide) (fun c20 => ?_) (fun c20 => ?_)
            · replace h := ite_f h c20
              refine lv_aload_n hx hb dX9_asks_72 rfl (lv_at hl 0 rfl) ?_
              refine lv_iload_n hx hb dX9_asks_73 rfl (lv_at hl 1 rfl) ?_
              refine lv_iconst (v := 0) hx hb dX9_asks_74 (by decide) ?_
              refine lv_iload_n hx hb dX9_asks_75 rfl (lv_at hl 2 rfl) ?_
              obtain ⟨r21, hr22, h⟩ := bd_of h
              refine wd_callV0 (As := [.int p0, .int 0, .int p1]) hC hW 0 wR_c0 rfl (c_X9_sets l D cy ad X T1 p0 0 p1 r21 hr22) (cwV 3 hts (gu_V w_12_8 w_12_5 w_12_6 w_12_7 w_1_5) rfl rfl rfl hdX9_sets ⟨Nat.le_of_ble_eq_true rfl, Nat.le_of_ble_eq_true rfl⟩) rfl hl.1 rfl (Nat.le_of_ble_eq_true rfl) ⟨Nat.zero_le _, Nat.zero_le _⟩ dX9_asks_76 (fun H locs hW => ?_)
              refine lv_aload_n hx hb dX9_asks_79 rfl (lv_at hl 0 rfl) ?_
              refine lv_iload_n hx hb dX9_asks_80 rfl (lv_at hl 1 rfl) ?_
              refine lv_iconst (v := 5) hx hb dX9_asks_81 (by decide) ?_
              refine lv_aload_n hx hb dX9_asks_82 rfl (lv_at hl 0 rfl) ?_
              refine lv_iload_n hx hb dX9_asks_83 rfl (lv_at hl 1 rfl) ?_
              refine lv_iconst (v := 5) hx hb dX9_asks_84 (by decide) ?_
              obtain ⟨r23, hr24, h⟩ := bd_of h
              refine wd_callV1 (As := [.int p0, .int 5]) hC hW 0 wR_c0 rfl (c_X9_of l D cy ad X r21 p0 5 r23 hr24) (cwV 2 hts (gu_V w_12_0 w_11_21 w_11_22 w_11_23 w_1_5) rfl rfl rfl hdX9_of ⟨Nat.le_of_ble_eq_true rfl, Nat.le_of_ble_eq_true rfl⟩) rfl hl.1 rfl (Nat.le_of_ble_eq_true rfl) ⟨Nat.zero_le _, Nat.zero_le _⟩ dX9_asks_85 (fun H locs hW => ?_)
              refine lv_iconst (v := 1) hx hb dX9_asks_88 (by decide) ?_
              refine lv_isub hx hb dX9_asks_89 ?_
              obtain ⟨r25, hr26, h⟩ := bd_of h
              refine wd_callV0 (As := [.int p0, .int 5, .int (r23 - 1)]) hC hW 0 wR_c0 rfl (c_X9_sets l D cy ad X r21 p0 5 (r23 - 1) r25 hr26) (cwV 3 hts (gu_V w_12_8 w_12_5 w_12_6 w_12_7 w_1_5) rfl rfl rfl hdX9_sets ⟨Nat.le_of_ble_eq_true rfl, Nat.le_of_ble_eq_true rfl⟩) rfl hl.1 rfl (Nat.le_of_ble_eq_true rfl) ⟨Nat.zero_le _, Nat.zero_le _⟩ dX9_asks_90 (fun H locs hW => ?_)
              refine lv_aload_n hx hb dX9_asks_93 rfl (lv_at hl 0 rfl) ?_
              refine lv_iload_n hx hb dX9_asks_94 rfl (lv_at hl 1 rfl) ?_
              refine lv_iconst (v := 5) hx hb dX9_asks_95 (by decide) ?_
              obtain ⟨r27, hr28, h⟩ := bd_of h
              refine wd_callV1 (As := [.int p0, .int 5]) hC hW 0 wR_c0 rfl (c_X9_of l D cy ad X r25 p0 5 r27 hr28) (cwV 2 hts (gu_V w_12_0 w_11_21 w_11_22 w_11_23 w_1_5) rfl rfl rfl hdX9_of ⟨Nat.le_of_ble_eq_true rfl, Nat.le_of_ble_eq_true rfl⟩) rfl hl.1 rfl (Nat.le_of_ble_eq_true rfl) ⟨Nat.zero_le _, Nat.zero_le _⟩ dX9_asks_96 (fun H locs hW => ?_)
              obtain rfl := Option.some.inj h
              exact wd_iret hA hQ hC hr hk hW dX9_asks_99
            · replace h := ite_t h c20
              refine lv_bipush (v := (-4)) hx hb dX9_asks_69 (by decide) ?_
              obtain rfl := Option.some.inj h
              exact wd_iret hA hQ hC hr hk hW dX9_asks_71
        · replace h := ite_t h c14
          refine lv_bipush (v := (-3)) hx hb dX9_asks_47 (by decide) ?_
          obtain rfl := Option.some.inj h
          exact wd_iret hA hQ hC hr hk hW dX9_asks_49
      · replace h := ite_t h c11
        refine lv_bipush (v := (-2)) hx hb dX9_asks_35 (by decide) ?_
        obtain rfl := Option.some.inj h
        exact wd_iret hA hQ hC hr hk hW dX9_asks_37
    · replace h := ite_t h c8
      refine lv_iconst (v := (-1)) hx hb dX9_asks_25 (by decide) ?_
      obtain rfl := Option.some.inj h
      exact wd_iret hA hQ hC hr hk hW dX9_asks_26
def m_X9_tries (n : Nat) (T : St) (p0 : Int32) : Option (Int32 × St) :=
  nm (sI T 0 0) (fun T1 => (m_X9_calledNow n T1).bind (fun r3 => if r3 = (-1) then (some ((-2), T1)) else ((m_X9_of T1 r3 0).bind (fun r6 => (m_X9_doesTry n T1 r3 p0).bind (fun r8 => nm (sI r8 1 0) (fun T10 => (m_X9_notes T10 r6.toInt64).bind (fun r12 => (m_X9_notes r12 ((r12.1 16).toInt64)).bind (fun r14 => some (r3, r14)))))))))
set_option maxHeartbeats 4000000 in
set_option maxRecDepth 100000 in
theorem c_X9_tries (l : Launch) (D : va_G) (cy : Nat → ClassId) (ad : Nat → Nat) (X : va_W) (n : Nat) (T : St) (p0 : Int32) (r : (Int32 × St)) (h : m_X9_tries n T p0 = some r) : CT l yX9_tries (wu yX9_tries cX9_tries 4 (some .int)) 6 D cy [.ref (ad 0), .int p0] (wR ad cy T ++ X) (some (.int r.1)) (wR ad cy r.2 ++ X) := by
  refine CT.mk (cc := cX9_tries) (maxL := 4) (ret := (some .int)) (own := RX9) (by decide) rfl rfl (Nat.le_of_ble_eq_true rfl) ?_
  intro p e s m args below meth c ls A Q hA hQ hC hr hk hW hl
  have hx := hC.1
  have hb := hC.2.1
  have hown := hC.2.2.2.1
  have hts := hC.2.2.2.2
  have hl : lv_has ls 4 [(0, .ref (ad 0)), (1, .int p0)] := hl
  have f77 := hts _ (wu_in w_6_14)
  have i9 := (fun w h => wu_in (inc_9 w h) : ∀ w ∈ u_ws RX9 TX9 40, w ∈ (wu yX9_tries cX9_tries 4 (some .int)))
  have f81 := hts _ (wu_in w_19_2)
  have f157 := hts _ (wu_in w_21_9)
  unfold m_X9_tries at h
  refine lv_aload_n hx hb dX9_tries_0 rfl (lv_at hl 0 rfl) ?_
  refine lv_iconst (v := 0) hx hb dX9_tries_1 (by decide) ?_
  refine wd_put hC i9 tyX9_ok nmX9 hW 0 wR_c0 rfl 0 (Nat.le_of_ble_eq_true rfl) f77 rfl rfl rfl rfl (Nat.le_of_ble_eq_true rfl) wR_s0_0 dX9_tries_2 (fun H locs hW => ?_)
  obtain ⟨T1, e2, h⟩ := nm_of h
  replace hW := wq_T e2 hW
  refine lv_aload_n hx hb dX9_tries_5 rfl (lv_at hl 0 rfl) ?_
  obtain ⟨r3, hr4, h⟩ := bd_of h
  refine wd_callV1 (As := []) hC hW 0 wR_c0 rfl (c_X9_calledNow l D cy ad X n T1 r3 hr4) (cwV 0 hts (gu_V w_19_6 w_19_3 w_19_4 w_19_5 w_1_5) rfl rfl rfl hdX9_calledNow ⟨Nat.le_of_ble_eq_true rfl, Nat.le_of_ble_eq_true rfl⟩) rfl hl.1 rfl (Nat.le_of_ble_eq_true rfl) ⟨Nat.zero_le _, Nat.zero_le _⟩ dX9_tries_6 (fun H locs hW => ?_)
  refine lv_istore_n (lv' := [(2, .int r3), (0, .ref (ad 0)), (1, .int p0)]) hx hb dX9_tries_9 rfl hl (by decide) rfl (fun ls hl => ?_)
  refine lv_iload_n hx hb dX9_tries_10 rfl (lv_at hl 0 rfl) ?_
  refine lv_iconst (v := (-1)) hx hb dX9_tries_11 (by decide) ?_
  refine lv_icmp_ne (tgt := 18) hx hb dX9_tries_12 (by decide) (fun c5 => ?_) (fun c5 => ?_)
  · replace h := ite_f h c5
    refine lv_aload_n hx hb dX9_tries_18 rfl (lv_at hl 1 rfl) ?_
    refine lv_iload_n hx hb dX9_tries_19 rfl (lv_at hl 0 rfl) ?_
    refine lv_iconst (v := 0) hx hb dX9_tries_20 (by decide) ?_
    obtain ⟨r6, hr7, h⟩ := bd_of h
    refine wd_callV1 (As := [.int r3, .int 0]) hC hW 0 wR_c0 rfl (c_X9_of l D cy ad X T1 r3 0 r6 hr7) (cwV 2 hts (gu_V w_12_0 w_11_21 w_11_22 w_11_23 w_1_5) rfl rfl rfl hdX9_of ⟨Nat.le_of_ble_eq_true rfl, Nat.le_of_ble_eq_true rfl⟩) rfl hl.1 rfl (Nat.le_of_ble_eq_true rfl) ⟨Nat.zero_le _, Nat.zero_le _⟩ dX9_tries_21 (fun H locs hW => ?_)
    refine lv_istore_n (lv' := [(3, .int r6), (2, .int r3), (0, .ref (ad 0)), (1, .int p0)]) hx hb dX9_tries_24 rfl hl (by decide) rfl (fun ls hl => ?_)
    refine lv_aload_n hx hb dX9_tries_25 rfl (lv_at hl 2 rfl) ?_
    refine lv_iload_n hx hb dX9_tries_26 rfl (lv_at hl 1 rfl) ?_
    refine lv_iload_n hx hb dX9_tries_27 rfl (lv_at hl 3 rfl) ?_
    obtain ⟨r8, hr9, h⟩ := bd_of h
    refine wd_callV0 (As := [.int r3, .int p0]) hC hW 0 wR_c0 rfl (c_X9_doesTry l D cy ad X n T1 r3 p0 r8 hr9) (cwV 2 hts (gu_V w_21_13 w_21_10 w_21_11 w_21_12 w_1_5) rfl rfl rfl hdX9_doesTry ⟨Nat.le_of_ble_eq_true rfl, Nat.le_of_ble_eq_true rfl⟩) rfl hl.1 rfl (Nat.le_of_ble_eq_true rfl) ⟨Nat.zero_le _, Nat.zero_le _⟩ dX9_tries_28 (fun H locs hW => ?_)
    refine lv_aload_n hx hb dX9_tries_31 rfl (lv_at hl 2 rfl) ?_
    refine lv_iconst (v := 0) hx hb dX9_tries_32 (by decide) ?_
    refine wd_put hC i9 tyX9_ok nmX9 hW 0 wR_c0 rfl 1 (Nat.le_of_ble_eq_true rfl) f81 rfl rfl rfl rfl (Nat.le_of_ble_eq_true rfl) wR_s0_1 dX9_tries_33 (fun H locs hW => ?_)
    obtain ⟨T10, e11, h⟩ := nm_of h
    replace hW := wq_T e11 hW
    refine lv_aload_n hx hb dX9_tries_36 rfl (lv_at hl 2 rfl) ?_
    refine lv_iload_n hx hb dX9_tries_37 rfl (lv_at hl 0 rfl) ?_
    refine lv_i2l (v := r6.toInt64) hx hb dX9_tries_38 rfl ?_
    obtain ⟨r12, hr13, h⟩ := bd_of h
    refine wd_callV0 (As := [.long r6.toInt64]) hC hW 0 wR_c0 rfl (c_X9_notes l D cy ad X T10 r6.toInt64 r12 hr13) (cwV 1 hts (gu_V w_19_14 w_19_11 w_19_12 w_19_13 w_1_5) rfl rfl rfl hdX9_notes ⟨Nat.le_of_ble_eq_true rfl, Nat.le_of_ble_eq_true rfl⟩) rfl hl.1 rfl (Nat.le_of_ble_eq_true rfl) ⟨Nat.zero_le _, Nat.zero_le _⟩ dX9_tries_39 (fun H locs hW => ?_)
    refine lv_aload_n hx hb dX9_tries_42 rfl (lv_at hl 2 rfl) ?_
    refine lv_aload_n hx hb dX9_tries_43 rfl (lv_at hl 2 rfl) ?_
    refine wd_get hC i9 hW 0 wR_c0 rfl 16 (Nat.le_of_ble_eq_true rfl) f157 rfl rfl dX9_tries_44 ?_
    refine lv_i2l (v := (r12.1 16).toInt64) hx hb dX9_tries_47 rfl ?_
    obtain ⟨r14, hr15, h⟩ := bd_of h
    refine wd_callV0 (As := [.long ((r12.1 16).toInt64)]) hC hW 0 wR_c0 rfl (c_X9_notes l D cy ad X r12 ((r12.1 16).toInt64) r14 hr15) (cwV 1 hts (gu_V w_19_14 w_19_11 w_19_12 w_19_13 w_1_5) rfl rfl rfl hdX9_notes ⟨Nat.le_of_ble_eq_true rfl, Nat.le_of_ble_eq_true rfl⟩) rfl hl.1 rfl (Nat.le_of_ble_eq_true rfl) ⟨Nat.zero_le _, Nat.zero_le _⟩ dX9_tries_48 (fun H locs hW => ?_)
    refine lv_iload_n hx hb dX9_tries_51 rfl (lv_at hl 1 rfl) ?_
    obtain rfl := Option.some.inj h
    exact wd_iret hA hQ hC hr hk hW dX9_tries_52
  · replace h := ite_t h c5
    refine lv_bipush (v := (-2)) hx hb dX9_tries_15 (by decide) ?_
    obtain rfl := Option.some.inj h
    exact wd_iret hA hQ hC hr hk hW dX9_tries_17
def m_X9_tried (T : St) (p0 : Int32) (p1 : Int32) : Option (Int32 × St) :=
  nm (sI T 0 0) (fun T1 => (m_X9_in T1 p0.toInt64 0 (((T1.1 13) - 1).toInt64)).bind (fun r3 => if r3 = 0 then (some ((-1), T1)) else ((m_X9_in T1 p1.toInt64 0 3).bind (fun r6 => if r6 = 0 then (some ((-1), T1)) else (ck ((4 * p0) + p1) 240 (some (T1.2.1 15 ((4 * p0) + p1).toNatClampNeg, T1)))))))
set_option maxHeartbeats 4000000 in
set_option maxRecDepth 100000 in
theorem c_X9_tried (l : Launch) (D : va_G) (cy : Nat → ClassId) (ad : Nat → Nat) (X : va_W) (T : St) (p0 : Int32) (p1 : Int32) (r : (Int32 × St)) (h : m_X9_tried T p0 p1 = some r) : CT l yX9_tried (wu yX9_tried cX9_tried 3 (some .int)) 1 D cy [.ref (ad 0), .int p0, .int p1] (wR ad cy T ++ X) (some (.int r.1)) (wR ad cy r.2 ++ X) := by
  refine CT.mk (cc := cX9_tried) (maxL := 3) (ret := (some .int)) (own := RX9) (by decide) rfl rfl (Nat.le_of_ble_eq_true rfl) ?_
  intro p e s m args below meth c ls A Q hA hQ hC hr hk hW hl
  have hx := hC.1
  have hb := hC.2.1
  have hown := hC.2.2.2.1
  have hts := hC.2.2.2.2
  have hl : lv_has ls 3 [(0, .ref (ad 0)), (1, .int p0), (2, .int p1)] := hl
  have f77 := hts _ (wu_in w_6_14)
  have i9 := (fun w h => wu_in (inc_9 w h) : ∀ w ∈ u_ws RX9 TX9 40, w ∈ (wu yX9_tried cX9_tried 3 (some .int)))
  have f131 := hts _ (wu_in w_11_7)
  have k259 := hts _ (wu_in w_22_12)
  have f38 := hts _ (wu_in w_5_12)
  unfold m_X9_tried at h
  refine lv_aload_n hx hb dX9_tried_0 rfl (lv_at hl 0 rfl) ?_
  refine lv_iconst (v := 0) hx hb dX9_tried_1 (by decide) ?_
  refine wd_put hC i9 tyX9_ok nmX9 hW 0 wR_c0 rfl 0 (Nat.le_of_ble_eq_true rfl) f77 rfl rfl rfl rfl (Nat.le_of_ble_eq_true rfl) wR_s0_0 dX9_tried_2 (fun H locs hW => ?_)
  obtain ⟨T1, e2, h⟩ := nm_of h
  replace hW := wq_T e2 hW
  refine lv_iload_n hx hb dX9_tried_5 rfl (lv_at hl 1 rfl) ?_
  refine lv_i2l (v := p0.toInt64) hx hb dX9_tried_6 rfl ?_
  refine lv_lconst (v := 0) hx hb dX9_tried_7 (by decide) ?_
  refine lv_aload_n hx hb dX9_tried_8 rfl (lv_at hl 0 rfl) ?_
  refine wd_get hC i9 hW 0 wR_c0 rfl 13 (Nat.le_of_ble_eq_true rfl) f131 rfl rfl dX9_tried_9 ?_
  refine lv_iconst (v := 1) hx hb dX9_tried_12 (by decide) ?_
  refine lv_isub hx hb dX9_tried_13 ?_
  refine lv_i2l (v := ((T1.1 13) - 1).toInt64) hx hb dX9_tried_14 rfl ?_
  obtain ⟨r3, hr4, h⟩ := bd_of h
  refine wd_callS1 (As := [.long p0.toInt64, .long 0, .long (((T1.1 13) - 1).toInt64)]) hC hW (c_X9_in l D cy ad X T1 p0.toInt64 0 (((T1.1 13) - 1).toInt64) r3 hr4) (va_cwS 3 hts (gu_S w_7_6 w_7_4 w_7_5 w_1_5) rfl rfl rfl hdX9_in ⟨Nat.le_of_ble_eq_true rfl, Nat.le_of_ble_eq_true rfl⟩) rfl hl.1 rfl (Nat.le_of_ble_eq_true rfl) ⟨Nat.zero_le _, Nat.zero_le _⟩ dX9_tried_15 (fun H locs hW => ?_)
  refine lv_if_eq (tgt := 46) hx hb dX9_tried_18 (by decide) (fun c5 => ?_) (fun c5 => ?_)
  · replace h := ite_t h c5
    refine lv_iconst (v := (-1)) hx hb dX9_tried_46 (by decide) ?_
    obtain rfl := Option.some.inj h
    exact wd_iret hA hQ hC hr hk hW dX9_tried_47
  · replace h := ite_f h c5
    refine lv_iload_n hx hb dX9_tried_21 rfl (lv_at hl 2 rfl) ?_
    refine lv_i2l (v := p1.toInt64) hx hb dX9_tried_22 rfl ?_
    refine lv_lconst (v := 0) hx hb dX9_tried_23 (by decide) ?_
    refine lv_ldc2 hx hb hown k259 dX9_tried_24 ?_
    obtain ⟨r6, hr7, h⟩ := bd_of h
    refine wd_callS1 (As := [.long p1.toInt64, .long 0, .long 3]) hC hW (c_X9_in l D cy ad X T1 p1.toInt64 0 3 r6 hr7) (va_cwS 3 hts (gu_S w_7_6 w_7_4 w_7_5 w_1_5) rfl rfl rfl hdX9_in ⟨Nat.le_of_ble_eq_true rfl, Nat.le_of_ble_eq_true rfl⟩) rfl hl.1 rfl (Nat.le_of_ble_eq_true rfl) ⟨Nat.zero_le _, Nat.zero_le _⟩ dX9_tried_27 (fun H locs hW => ?_)
    refine lv_if_eq (tgt := 46) hx hb dX9_tried_30 (by decide) (fun c8 => ?_) (fun c8 => ?_)
    · replace h := ite_t h c8
      refine lv_iconst (v := (-1)) hx hb dX9_tried_46 (by decide) ?_
      obtain rfl := Option.some.inj h
      exact wd_iret hA hQ hC hr hk hW dX9_tried_47
    · replace h := ite_f h c8
      refine lv_aload_n hx hb dX9_tried_33 rfl (lv_at hl 0 rfl) ?_
      refine wd_get hC i9 hW 0 wR_c0 rfl 15 (Nat.le_of_ble_eq_true rfl) f38 rfl rfl dX9_tried_34 ?_
      refine lv_iconst (v := 4) hx hb dX9_tried_37 (by decide) ?_
      refine lv_iload_n hx hb dX9_tried_38 rfl (lv_at hl 1 rfl) ?_
      refine lv_imul hx hb dX9_tried_39 ?_
      refine lv_iload_n hx hb dX9_tried_40 rfl (lv_at hl 2 rfl) ?_
      refine lv_iadd hx hb dX9_tried_41 ?_
      obtain ⟨hi9, h⟩ := ck_of h
      refine wd_iald hC hW 10 wR_c10 hi9 dX9_tried_42 ?_
      refine lv_goto (tgt := 47) hx hb dX9_tried_43 (by decide) ?_
      obtain rfl := Option.some.inj h
      exact wd_iret hA hQ hC hr hk hW dX9_tried_47
def m_X9_place (n : Nat) (T : St) (p0 : Int32) : Option (Int32 × St) :=
  nm (sI T 0 0) (fun T1 => (m_X9_isLifter T1 p0).bind (fun r3 => if r3 = 0 then (some ((-1), T1)) else ((m_X9_entersPlaces n T1).bind (fun r6 => (m_X9_aheadOf n r6 p0).bind (fun r8 => some (r8, r6))))))
set_option maxHeartbeats 4000000 in
set_option maxRecDepth 100000 in
theorem c_X9_place (l : Launch) (D : va_G) (cy : Nat → ClassId) (ad : Nat → Nat) (X : va_W) (n : Nat) (T : St) (p0 : Int32) (r : (Int32 × St)) (h : m_X9_place n T p0 = some r) : CT l yX9_place (wu yX9_place cX9_place 2 (some .int)) 6 D cy [.ref (ad 0), .int p0] (wR ad cy T ++ X) (some (.int r.1)) (wR ad cy r.2 ++ X) := by
  refine CT.mk (cc := cX9_place) (maxL := 2) (ret := (some .int)) (own := RX9) (by decide) rfl rfl (Nat.le_of_ble_eq_true rfl) ?_
  intro p e s m args below meth c ls A Q hA hQ hC hr hk hW hl
  have hx := hC.1
  have hb := hC.2.1
  have hown := hC.2.2.2.1
  have hts := hC.2.2.2.2
  have hl : lv_has ls 2 [(0, .ref (ad 0)), (1, .int p0)] := hl
  have f77 := hts _ (wu_in w_6_14)
  have i9 := (fun w h => wu_in (inc_9 w h) : ∀ w ∈ u_ws RX9 TX9 40, w ∈ (wu yX9_place cX9_place 2 (some .int)))
  unfold m_X9_place at h
  refine lv_aload_n hx hb dX9_place_0 rfl (lv_at hl 0 rfl) ?_
  refine lv_iconst (v := 0) hx hb dX9_place_1 (by decide) ?_
  refine wd_put hC i9 tyX9_ok nmX9 hW 0 wR_c0 rfl 0 (Nat.le_of_ble_eq_true rfl) f77 rfl rfl rfl rfl (Nat.le_of_ble_eq_true rfl) wR_s0_0 dX9_place_2 (fun H locs hW => ?_)
  obtain ⟨T1, e2, h⟩ := nm_of h
  replace hW := wq_T e2 hW
  refine lv_aload_n hx hb dX9_place_5 rfl (lv_at hl 0 rfl) ?_
  refine lv_iload_n hx hb dX9_place_6 rfl (lv_at hl 1 rfl) ?_
  obtain ⟨r3, hr4, h⟩ := bd_of h
  refine wd_callV1 (As := [.int p0]) hC hW 0 wR_c0 rfl (c_X9_isLifter l D cy ad X T1 p0 r3 hr4) (cwV 1 hts (gu_V w_14_5 w_14_2 w_14_3 w_14_4 w_1_5) rfl rfl rfl hdX9_isLifter ⟨Nat.le_of_ble_eq_true rfl, Nat.le_of_ble_eq_true rfl⟩) rfl hl.1 rfl (Nat.le_of_ble_eq_true rfl) ⟨Nat.zero_le _, Nat.zero_le _⟩ dX9_place_7 (fun H locs hW => ?_)
  refine lv_if_ne (tgt := 15) hx hb dX9_place_10 (by decide) (fun c5 => ?_) (fun c5 => ?_)
  · replace h := ite_f h c5
    refine lv_aload_n hx hb dX9_place_15 rfl (lv_at hl 0 rfl) ?_
    obtain ⟨r6, hr7, h⟩ := bd_of h
    refine wd_callV0 (As := []) hC hW 0 wR_c0 rfl (c_X9_entersPlaces l D cy ad X n T1 r6 hr7) (cwV 0 hts (gu_V w_23_19 w_23_16 w_23_17 w_23_18 w_1_5) rfl rfl rfl hdX9_entersPlaces ⟨Nat.le_of_ble_eq_true rfl, Nat.le_of_ble_eq_true rfl⟩) rfl hl.1 rfl (Nat.le_of_ble_eq_true rfl) ⟨Nat.zero_le _, Nat.zero_le _⟩ dX9_place_16 (fun H locs hW => ?_)
    refine lv_aload_n hx hb dX9_place_19 rfl (lv_at hl 0 rfl) ?_
    refine lv_iload_n hx hb dX9_place_20 rfl (lv_at hl 1 rfl) ?_
    obtain ⟨r8, hr9, h⟩ := bd_of h
    refine wd_callV1 (As := [.int p0]) hC hW 0 wR_c0 rfl (c_X9_aheadOf l D cy ad X n r6 p0 r8 hr9) (cwV 1 hts (gu_V w_23_23 w_23_20 w_23_21 w_23_22 w_1_5) rfl rfl rfl hdX9_aheadOf ⟨Nat.le_of_ble_eq_true rfl, Nat.le_of_ble_eq_true rfl⟩) rfl hl.1 rfl (Nat.le_of_ble_eq_true rfl) ⟨Nat.zero_le _, Nat.zero_le _⟩ dX9_place_21 (fun H locs hW => ?_)
    obtain rfl := Option.some.inj h
    exact wd_iret hA hQ hC hr hk hW dX9_place_24
  · replace h := ite_t h c5
    refine lv_iconst (v := (-1)) hx hb dX9_place_13 (by decide) ?_
    obtain rfl := Option.some.inj h
    exact wd_iret hA hQ hC hr hk hW dX9_place_14
def m_X9_slot_L45 : Nat → St → Int32 → Int32 → Int32 → Int32 → Int32 → Option (St × Int32)
  | 0, _, _, _, _, _, _ => none
  | n + 1, T, x1, x2, x3, x4, x5 =>
    (m_X9_leastOf T x1).bind (fun r14 => if x5 < r14 then (some (T, x4)) else ((m_X9_sets T x1 0 x5).bind (fun r17 => (m_X9_calledAhead n r17 x1).bind (fun r19 => if r19 = x2 then (m_X9_slot_L45 n r17 x1 x2 x3 x5 (x5 + (-1))) else (m_X9_slot_L45 n r17 x1 x2 x3 x4 (x5 + (-1)))))))
theorem m_X9_slot_L45_0 (T : St) (x1 : Int32) (x2 : Int32) (x3 : Int32) (x4 : Int32) (x5 : Int32) : m_X9_slot_L45 0 T x1 x2 x3 x4 x5 = none := rfl
theorem m_X9_slot_L45_s {n : Nat} {T : St} {x1 : Int32} {x2 : Int32} {x3 : Int32} {x4 : Int32} {x5 : Int32} : m_X9_slot_L45 (n + 1) T x1 x2 x3 x4 x5 =
    ((m_X9_leastOf T x1).bind (fun r14 => if x5 < r14 then (some (T, x4)) else ((m_X9_sets T x1 0 x5).bind (fun r17 => (m_X9_calledAhead n r17 x1).bind (fun r19 => if r19 = x2 then (m_X9_slot_L45 n r17 x1 x2 x3 x5 (x5 + (-1))) else (m_X9_slot_L45 n r17 x1 x2 x3 x4 (x5 + (-1)))))))) := rfl
def m_X9_slot (n : Nat) (T : St) (p0 : Int32) (p1 : Int32) : Option (Int32 × St) :=
  nm (sI T 0 0) (fun T1 => (m_X9_isLifter T1 p0).bind (fun r3 => if r3 = 0 then (some ((-1), T1)) else (if 0 ≤ p1 then ((m_X9_isStill T1 p0).bind (fun r7 => if r7 = 0 then (some ((-2), T1)) else ((m_X9_of T1 p0 0).bind (fun r10 => (m_X9_slot_L45 n T1 p0 p1 r10 (-3) 40).bind (fun q12 => (m_X9_sets q12.1 p0 0 r10).bind (fun r22 => some (q12.2, r22))))))) else (some ((-1), T1)))))
set_option maxHeartbeats 4000000 in
set_option maxRecDepth 100000 in
theorem c_X9_slot (l : Launch) (D : va_G) (cy : Nat → ClassId) (ad : Nat → Nat) (X : va_W) (n : Nat) (T : St) (p0 : Int32) (p1 : Int32) (r : (Int32 × St)) (h : m_X9_slot n T p0 p1 = some r) : CT l yX9_slot (wu yX9_slot cX9_slot 6 (some .int)) 4 D cy [.ref (ad 0), .int p0, .int p1] (wR ad cy T ++ X) (some (.int r.1)) (wR ad cy r.2 ++ X) := by
  refine CT.mk (cc := cX9_slot) (maxL := 6) (ret := (some .int)) (own := RX9) (by decide) rfl rfl (Nat.le_of_ble_eq_true rfl) ?_
  intro p e s m args below meth c ls A Q hA hQ hC hr hk hW hl
  have hx := hC.1
  have hb := hC.2.1
  have hown := hC.2.2.2.1
  have hts := hC.2.2.2.2
  have hl : lv_has ls 6 [(0, .ref (ad 0)), (1, .int p0), (2, .int p1)] := hl
  have f77 := hts _ (wu_in w_6_14)
  have i9 := (fun w h => wu_in (inc_9 w h) : ∀ w ∈ u_ws RX9 TX9 40, w ∈ (wu yX9_slot cX9_slot 6 (some .int)))
  unfold m_X9_slot at h
  refine lv_aload_n hx hb dX9_slot_0 rfl (lv_at hl 0 rfl) ?_
  refine lv_iconst (v := 0) hx hb dX9_slot_1 (by decide) ?_
  refine wd_put hC i9 tyX9_ok nmX9 hW 0 wR_c0 rfl 0 (Nat.le_of_ble_eq_true rfl) f77 rfl rfl rfl rfl (Nat.le_of_ble_eq_true rfl) wR_s0_0 dX9_slot_2 (fun H locs hW => ?_)
  obtain ⟨T1, e2, h⟩ := nm_of h
  replace hW := wq_T e2 hW
  refine lv_aload_n hx hb dX9_slot_5 rfl (lv_at hl 0 rfl) ?_
  refine lv_iload_n hx hb dX9_slot_6 rfl (lv_at hl 1 rfl) ?_
  obtain ⟨r3, hr4, h⟩ := bd_of h
  refine wd_callV1 (As := [.int p0]) hC hW 0 wR_c0 rfl (c_X9_isLifter l D cy ad X T1 p0 r3 hr4) (cwV 1 hts (gu_V w_14_5 w_14_2 w_14_3 w_14_4 w_1_5) rfl rfl rfl hdX9_isLifter ⟨Nat.le_of_ble_eq_true rfl, Nat.le_of_ble_eq_true rfl⟩) rfl hl.1 rfl (Nat.le_of_ble_eq_true rfl) ⟨Nat.zero_le _, Nat.zero_le _⟩ dX9_slot_7 (fun H locs hW => ?_)
  refine lv_if_eq (tgt := 17) hx hb dX9_slot_10 (by decide) (fun c5 => ?_) (fun c5 => ?_)
  · replace h := ite_t h c5
    refine lv_iconst (v := (-1)) hx hb dX9_slot_17 (by decide) ?_
    obtain rfl := Option.some.inj h
    exact wd_iret hA hQ hC hr hk hW dX9_slot_18
  · replace h := ite_f h c5
    refine lv_iload_n hx hb dX9_slot_13 rfl (lv_at hl 2 rfl) ?_
    refine lv_if_ge (tgt := 19) hx hb dX9_slot_14 (by decide) (fun c6 => ?_) (fun c6 => ?_)
    · replace h := ite_t h c6
      refine lv_aload_n hx hb dX9_slot_19 rfl (lv_at hl 0 rfl) ?_
      refine lv_iload_n hx hb dX9_slot_20 rfl (lv_at hl 1 rfl) ?_
      obtain ⟨r7, hr8, h⟩ := bd_of h
      refine wd_callV1 (As := [.int p0]) hC hW 0 wR_c0 rfl (c_X9_isStill l D cy ad X T1 p0 r7 hr8) (cwV 1 hts (gu_V w_17_15 w_17_12 w_17_13 w_17_14 w_1_5) rfl rfl rfl hdX9_isStill ⟨Nat.le_of_ble_eq_true rfl, Nat.le_of_ble_eq_true rfl⟩) rfl hl.1 rfl (Nat.le_of_ble_eq_true rfl) ⟨Nat.zero_le _, Nat.zero_le _⟩ dX9_slot_21 (fun H locs hW => ?_)
      refine lv_if_ne (tgt := 30) hx hb dX9_slot_24 (by decide) (fun c9 => ?_) (fun c9 => ?_)
      · replace h := ite_f h c9
        refine lv_aload_n hx hb dX9_slot_30 rfl (lv_at hl 0 rfl) ?_
        refine lv_iload_n hx hb dX9_slot_31 rfl (lv_at hl 1 rfl) ?_
        refine lv_iconst (v := 0) hx hb dX9_slot_32 (by decide) ?_
        obtain ⟨r10, hr11, h⟩ := bd_of h
        refine wd_callV1 (As := [.int p0, .int 0]) hC hW 0 wR_c0 rfl (c_X9_of l D cy ad X T1 p0 0 r10 hr11) (cwV 2 hts (gu_V w_12_0 w_11_21 w_11_22 w_11_23 w_1_5) rfl rfl rfl hdX9_of ⟨Nat.le_of_ble_eq_true rfl, Nat.le_of_ble_eq_true rfl⟩) rfl hl.1 rfl (Nat.le_of_ble_eq_true rfl) ⟨Nat.zero_le _, Nat.zero_le _⟩ dX9_slot_33 (fun H locs hW => ?_)
        refine lv_istore_n (lv' := [(3, .int r10), (0, .ref (ad 0)), (1, .int p0), (2, .int p1)]) hx hb dX9_slot_36 rfl hl (by decide) rfl (fun ls hl => ?_)
        refine lv_bipush (v := (-3)) hx hb dX9_slot_37 (by decide) ?_
        refine lv_istore (lv' := [(4, .int (-3)), (3, .int r10), (0, .ref (ad 0)), (1, .int p0), (2, .int p1)]) hx hb dX9_slot_39 hl (by decide) rfl (fun ls hl => ?_)
        refine lv_bipush (v := 40) hx hb dX9_slot_41 (by decide) ?_
        refine lv_istore (lv' := [(5, .int 40), (4, .int (-3)), (3, .int r10), (0, .ref (ad 0)), (1, .int p0), (2, .int p1)]) hx hb dX9_slot_43 hl (by decide) rfl (fun ls hl => ?_)
        have hL45 : ∀ (n : Nat) (T : St) (x1 : Int32) (x2 : Int32) (x3 : Int32) (x4 : Int32) (x5 : Int32)  (H : Heap) (locs : List Loc) (ls : Array Slot) (r : (St × Int32)), m_X9_slot_L45 n T x1 x2 x3 x4 x5 = some r → Wd D cy A s (wR ad cy T ++ X) H locs → lv_has ls 6 [(0, .ref (ad 0)), (1, .int x1), (2, .int x2), (3, .int x3), (4, .int x4), (5, .int x5)] → (∀ (H : Heap) (locs : List Loc) (ls : Array Slot), Wd D cy A s (wR ad cy r.1 ++ X) H locs → lv_has ls 6 [(0, .ref (ad 0)), (1, .int x1), (2, .int x2), (3, .int x3), (4, .int r.2)] → W p l e (RM 4) s m args below meth c H locs 0 0 Q (F0 m 87 ls [])) → W p l e (RM 4) s m args below meth c H locs 0 0 Q (F0 m 45 ls []) := by
          intro n
          induction n with
          | zero =>
            intro T x1 x2 x3 x4 x5  H locs ls r h
            exact absurd (h.symm.trans (m_X9_slot_L45_0 ..)) (by simp)
          | succ n ih =>
            intro T x1 x2 x3 x4 x5  H locs ls r h hW hl kk
            rw [m_X9_slot_L45_s] at h
            refine lv_iload hx hb dX9_slot_45 (lv_at hl 5 rfl) ?_
            refine lv_aload_n hx hb dX9_slot_47 rfl (lv_at hl 0 rfl) ?_
            refine lv_iload_n hx hb dX9_slot_48 rfl (lv_at hl 1 rfl) ?_
            obtain ⟨r14, hr15, h⟩ := bd_of h
            refine wd_callV1 (As := [.int x1]) hC hW 0 wR_c0 rfl (c_X9_leastOf l D cy ad X T x1 r14 hr15) (cwV 1 hts (gu_V w_17_11 w_17_8 w_17_9 w_17_10 w_1_5) rfl rfl rfl hdX9_leastOf ⟨Nat.le_of_ble_eq_true rfl, Nat.le_of_ble_eq_true rfl⟩) rfl hl.1 rfl (Nat.le_of_ble_eq_true rfl) ⟨Nat.zero_le _, Nat.zero_le _⟩ dX9_slot_49 (fun H locs hW => ?_)
            refine lv_icmp_lt (tgt := 87) hx hb dX9_slot_52 (by decide) (fun c16 => ?_) (fun c16 => ?_)
            · replace h := ite_t h c16
              obtain rfl := Option.some.inj h
              exact kk _ _ _ hW (lv_sub hl [0, 1, 2, 3, 4] rfl)
            · replace h := ite_f h c16
              refine lv_aload_n hx hb dX9_slot_55 rfl (lv_at hl 0 rfl) ?_
              refine lv_iload_n hx hb dX9_slot_56 rfl (lv_at hl 1 rfl) ?_
              refine lv_iconst (v := 0) hx hb dX9_slot_57 (by decide) ?_
              refine lv_iload hx hb dX9_slot_58 (lv_at hl 5 rfl) ?_
              obtain ⟨r17, hr18, h⟩ := bd_of h
              refine wd_callV0 (As := [.int x1, .int 0, .int x5]) hC hW 0 wR_c0 rfl (c_X9_sets l D cy ad X T x1 0 x5 r17 hr18) (cwV 3 hts (gu_V w_12_8 w_12_5 w_12_6 w_12_7 w_1_5) rfl rfl rfl hdX9_sets ⟨Nat.le_of_ble_eq_true rfl, Nat.le_of_ble_eq_true rfl⟩) rfl hl.1 rfl (Nat.le_of_ble_eq_true rfl) ⟨Nat.zero_le _, Nat.zero_le _⟩ dX9_slot_60 (fun H locs hW => ?_)
              refine lv_aload_n hx hb dX9_slot_63 rfl (lv_at hl 0 rfl) ?_
              refine lv_iload_n hx hb dX9_slot_64 rfl (lv_at hl 1 rfl) ?_
              obtain ⟨r19, hr20, h⟩ := bd_of h
              refine wd_callV1 (As := [.int x1]) hC hW 0 wR_c0 rfl (c_X9_calledAhead l D cy ad X n r17 x1 r19 hr20) (cwV 1 hts (gu_V w_20_3 w_20_0 w_20_1 w_20_2 w_1_5) rfl rfl rfl hdX9_calledAhead ⟨Nat.le_of_ble_eq_true rfl, Nat.le_of_ble_eq_true rfl⟩) rfl hl.1 rfl (Nat.le_of_ble_eq_true rfl) ⟨Nat.zero_le _, Nat.zero_le _⟩ dX9_slot_65 (fun H locs hW => ?_)
              refine lv_iload_n hx hb dX9_slot_68 rfl (lv_at hl 2 rfl) ?_
              refine lv_icmp_ne (tgt := 77) hx hb dX9_slot_69 (by decide) (fun c21 => ?_) (fun c21 => ?_)
              · replace h := ite_f h c21
                refine lv_iload hx hb dX9_slot_77 (lv_at hl 4 rfl) ?_
                refine lv_istore (lv' := [(4, .int x4), (0, .ref (ad 0)), (1, .int x1), (2, .int x2), (3, .int x3), (5, .int x5)]) hx hb dX9_slot_79 hl (by decide) rfl (fun ls hl => ?_)
                refine lv_iinc (v := x5 + (-1)) (lv' := [(5, .int (x5 + (-1))), (4, .int x4), (0, .ref (ad 0)), (1, .int x1), (2, .int x2), (3, .int x3)]) hx hb dX9_slot_81 hl (k := 5) rfl rfl (by decide) rfl (fun ls hl => ?_)
                refine lv_goto (tgt := 45) hx hb dX9_slot_84 (by decide) ?_
                exact ih r17 x1 x2 x3 x4 (x5 + (-1)) _ _ _ r h hW (lv_sub hl [2, 3, 4, 5, 1, 0] rfl) kk
              · replace h := ite_t h c21
                refine lv_iload hx hb dX9_slot_72 (lv_at hl 5 rfl) ?_
                refine lv_goto (tgt := 79) hx hb dX9_slot_74 (by decide) ?_
                refine lv_istore (lv' := [(4, .int x5), (0, .ref (ad 0)), (1, .int x1), (2, .int x2), (3, .int x3), (5, .int x5)]) hx hb dX9_slot_79 hl (by decide) rfl (fun ls hl => ?_)
                refine lv_iinc (v := x5 + (-1)) (lv' := [(5, .int (x5 + (-1))), (4, .int x5), (0, .ref (ad 0)), (1, .int x1), (2, .int x2), (3, .int x3)]) hx hb dX9_slot_81 hl (k := 5) rfl rfl (by decide) rfl (fun ls hl => ?_)
                refine lv_goto (tgt := 45) hx hb dX9_slot_84 (by decide) ?_
                exact ih r17 x1 x2 x3 x5 (x5 + (-1)) _ _ _ r h hW (lv_sub hl [2, 3, 4, 5, 1, 0] rfl) kk
        obtain ⟨q12, hq13, h⟩ := bd_of h
        refine hL45 n T1 p0 p1 r10 (-3) 40  _ _ _ q12 hq13 hW (lv_sub hl [3, 4, 5, 2, 1, 0] rfl) (fun H locs ls hW hl => ?_)
        refine lv_aload_n hx hb dX9_slot_87 rfl (lv_at hl 0 rfl) ?_
        refine lv_iload_n hx hb dX9_slot_88 rfl (lv_at hl 1 rfl) ?_
        refine lv_iconst (v := 0) hx hb dX9_slot_89 (by decide) ?_
        refine lv_iload_n hx hb dX9_slot_90 rfl (lv_at hl 3 rfl) ?_
        obtain ⟨r22, hr23, h⟩ := bd_of h
        refine wd_callV0 (As := [.int p0, .int 0, .int r10]) hC hW 0 wR_c0 rfl (c_X9_sets l D cy ad X q12.1 p0 0 r10 r22 hr23) (cwV 3 hts (gu_V w_12_8 w_12_5 w_12_6 w_12_7 w_1_5) rfl rfl rfl hdX9_sets ⟨Nat.le_of_ble_eq_true rfl, Nat.le_of_ble_eq_true rfl⟩) rfl hl.1 rfl (Nat.le_of_ble_eq_true rfl) ⟨Nat.zero_le _, Nat.zero_le _⟩ dX9_slot_91 (fun H locs hW => ?_)
        refine lv_iload hx hb dX9_slot_94 (lv_at hl 4 rfl) ?_
        obtain rfl := Option.some.inj h
        exact wd_iret hA hQ hC hr hk hW dX9_slot_96
      · replace h := ite_t h c9
        refine lv_bipush (v := (-2)) hx hb dX9_slot_27 (by decide) ?_
        obtain rfl := Option.some.inj h
        exact wd_iret hA hQ hC hr hk hW dX9_slot_29
    · replace h := ite_f h c6
      refine lv_iconst (v := (-1)) hx hb dX9_slot_17 (by decide) ?_
      obtain rfl := Option.some.inj h
      exact wd_iret hA hQ hC hr hk hW dX9_slot_18
def m_X9_needs_L76 : Nat → St → Int32 → Int32 → Int32 → Int32 → Int32 → Int32 → Option (St × Int32)
  | 0, _, _, _, _, _, _, _ => none
  | n + 1, T, x1, x2, x3, x4, x5, x6 =>
    (m_X9_leastOf T x1).bind (fun r21 => if x6 < r21 then (some (T, x5)) else ((m_X9_sets T x1 x3 (mx x4 x6)).bind (fun r24 => (m_X9_isAhead r24 x1 x2).bind (fun r26 => if r26 = 0 then (m_X9_needs_L76 n r24 x1 x2 x3 x4 x5 (x6 + (-1))) else (m_X9_needs_L76 n r24 x1 x2 x3 x4 x6 (x6 + (-1)))))))
theorem m_X9_needs_L76_0 (T : St) (x1 : Int32) (x2 : Int32) (x3 : Int32) (x4 : Int32) (x5 : Int32) (x6 : Int32) : m_X9_needs_L76 0 T x1 x2 x3 x4 x5 x6 = none := rfl
theorem m_X9_needs_L76_s {n : Nat} {T : St} {x1 : Int32} {x2 : Int32} {x3 : Int32} {x4 : Int32} {x5 : Int32} {x6 : Int32} : m_X9_needs_L76 (n + 1) T x1 x2 x3 x4 x5 x6 =
    ((m_X9_leastOf T x1).bind (fun r21 => if x6 < r21 then (some (T, x5)) else ((m_X9_sets T x1 x3 (mx x4 x6)).bind (fun r24 => (m_X9_isAhead r24 x1 x2).bind (fun r26 => if r26 = 0 then (m_X9_needs_L76 n r24 x1 x2 x3 x4 x5 (x6 + (-1))) else (m_X9_needs_L76 n r24 x1 x2 x3 x4 x6 (x6 + (-1)))))))) := rfl
def m_X9_needs (n : Nat) (T : St) (p0 : Int32) (p1 : Int32) : Option (Int32 × St) :=
  nm (sI T 0 0) (fun T1 => (m_X9_isLifter T1 p0).bind (fun r3 => if r3 = 0 then (some ((-1), T1)) else ((m_X9_isLifter T1 p1).bind (fun r6 => if r6 = 0 then (some ((-1), T1)) else (if p0 = p1 then (some ((-1), T1)) else ((m_X9_isAhead T1 p0 p1).bind (fun r10 => if r10 = 0 then ((m_X9_leastOf T1 p0).bind (fun r13 => if r13 = 0 then (some ((-2), T1)) else (ck 0 63 ((m_X9_of T1 p0 (7 + (T1.2.1 11 ((0 : Int32).toNatClampNeg)))).bind (fun r17 => (m_X9_needs_L76 n T1 p0 p1 (7 + (T1.2.1 11 ((0 : Int32).toNatClampNeg))) r17 (-3) 40).bind (fun q19 => (m_X9_sets q19.1 p0 (7 + (T1.2.1 11 ((0 : Int32).toNatClampNeg))) r17).bind (fun r29 => some (q19.2, r29)))))))) else (some (0, T1)))))))))
set_option maxHeartbeats 4000000 in
set_option maxRecDepth 100000 in
theorem c_X9_needs (l : Launch) (D : va_G) (cy : Nat → ClassId) (ad : Nat → Nat) (X : va_W) (n : Nat) (T : St) (p0 : Int32) (p1 : Int32) (r : (Int32 × St)) (h : m_X9_needs n T p0 p1 = some r) : CT l yX9_needs (wu yX9_needs cX9_needs 7 (some .int)) 4 D cy [.ref (ad 0), .int p0, .int p1] (wR ad cy T ++ X) (some (.int r.1)) (wR ad cy r.2 ++ X) := by
  refine CT.mk (cc := cX9_needs) (maxL := 7) (ret := (some .int)) (own := RX9) (by decide) rfl rfl (Nat.le_of_ble_eq_true rfl) ?_
  intro p e s m args below meth c ls A Q hA hQ hC hr hk hW hl
  have hx := hC.1
  have hb := hC.2.1
  have hown := hC.2.2.2.1
  have hts := hC.2.2.2.2
  have hl : lv_has ls 7 [(0, .ref (ad 0)), (1, .int p0), (2, .int p1)] := hl
  have f77 := hts _ (wu_in w_6_14)
  have i9 := (fun w h => wu_in (inc_9 w h) : ∀ w ∈ u_ws RX9 TX9 40, w ∈ (wu yX9_needs cX9_needs 7 (some .int)))
  have f32 := hts _ (wu_in w_5_10)
  have ml100 := hts _ (wu_in w_16_0)
  have msmax := hts _ (wu_in w_15_13)
  have mi := hts _ (wu_in w_15_14)
  have mcmax := hts _ (wu_in w_15_15)
  unfold m_X9_needs at h
  refine lv_aload_n hx hb dX9_needs_0 rfl (lv_at hl 0 rfl) ?_
  refine lv_iconst (v := 0) hx hb dX9_needs_1 (by decide) ?_
  refine wd_put hC i9 tyX9_ok nmX9 hW 0 wR_c0 rfl 0 (Nat.le_of_ble_eq_true rfl) f77 rfl rfl rfl rfl (Nat.le_of_ble_eq_true rfl) wR_s0_0 dX9_needs_2 (fun H locs hW => ?_)
  obtain ⟨T1, e2, h⟩ := nm_of h
  replace hW := wq_T e2 hW
  refine lv_aload_n hx hb dX9_needs_5 rfl (lv_at hl 0 rfl) ?_
  refine lv_iload_n hx hb dX9_needs_6 rfl (lv_at hl 1 rfl) ?_
  obtain ⟨r3, hr4, h⟩ := bd_of h
  refine wd_callV1 (As := [.int p0]) hC hW 0 wR_c0 rfl (c_X9_isLifter l D cy ad X T1 p0 r3 hr4) (cwV 1 hts (gu_V w_14_5 w_14_2 w_14_3 w_14_4 w_1_5) rfl rfl rfl hdX9_isLifter ⟨Nat.le_of_ble_eq_true rfl, Nat.le_of_ble_eq_true rfl⟩) rfl hl.1 rfl (Nat.le_of_ble_eq_true rfl) ⟨Nat.zero_le _, Nat.zero_le _⟩ dX9_needs_7 (fun H locs hW => ?_)
  refine lv_if_eq (tgt := 26) hx hb dX9_needs_10 (by decide) (fun c5 => ?_) (fun c5 => ?_)
  · replace h := ite_t h c5
    refine lv_iconst (v := (-1)) hx hb dX9_needs_26 (by decide) ?_
    obtain rfl := Option.some.inj h
    exact wd_iret hA hQ hC hr hk hW dX9_needs_27
  · replace h := ite_f h c5
    refine lv_aload_n hx hb dX9_needs_13 rfl (lv_at hl 0 rfl) ?_
    refine lv_iload_n hx hb dX9_needs_14 rfl (lv_at hl 2 rfl) ?_
    obtain ⟨r6, hr7, h⟩ := bd_of h
    refine wd_callV1 (As := [.int p1]) hC hW 0 wR_c0 rfl (c_X9_isLifter l D cy ad X T1 p1 r6 hr7) (cwV 1 hts (gu_V w_14_5 w_14_2 w_14_3 w_14_4 w_1_5) rfl rfl rfl hdX9_isLifter ⟨Nat.le_of_ble_eq_true rfl, Nat.le_of_ble_eq_true rfl⟩) rfl hl.1 rfl (Nat.le_of_ble_eq_true rfl) ⟨Nat.zero_le _, Nat.zero_le _⟩ dX9_needs_15 (fun H locs hW => ?_)
    refine lv_if_eq (tgt := 26) hx hb dX9_needs_18 (by decide) (fun c8 => ?_) (fun c8 => ?_)
    · replace h := ite_t h c8
      refine lv_iconst (v := (-1)) hx hb dX9_needs_26 (by decide) ?_
      obtain rfl := Option.some.inj h
      exact wd_iret hA hQ hC hr hk hW dX9_needs_27
    · replace h := ite_f h c8
      refine lv_iload_n hx hb dX9_needs_21 rfl (lv_at hl 1 rfl) ?_
      refine lv_iload_n hx hb dX9_needs_22 rfl (lv_at hl 2 rfl) ?_
      refine lv_icmp_ne (tgt := 28) hx hb dX9_needs_23 (by decide) (fun c9 => ?_) (fun c9 => ?_)
      · replace h := ite_f h c9
        refine lv_aload_n hx hb dX9_needs_28 rfl (lv_at hl 0 rfl) ?_
        refine lv_iload_n hx hb dX9_needs_29 rfl (lv_at hl 1 rfl) ?_
        refine lv_iload_n hx hb dX9_needs_30 rfl (lv_at hl 2 rfl) ?_
        obtain ⟨r10, hr11, h⟩ := bd_of h
        refine wd_callV1 (As := [.int p0, .int p1]) hC hW 0 wR_c0 rfl (c_X9_isAhead l D cy ad X T1 p0 p1 r10 hr11) (cwV 2 hts (gu_V w_24_3 w_24_0 w_24_1 w_24_2 w_1_5) rfl rfl rfl hdX9_isAhead ⟨Nat.le_of_ble_eq_true rfl, Nat.le_of_ble_eq_true rfl⟩) rfl hl.1 rfl (Nat.le_of_ble_eq_true rfl) ⟨Nat.zero_le _, Nat.zero_le _⟩ dX9_needs_31 (fun H locs hW => ?_)
        refine lv_if_eq (tgt := 39) hx hb dX9_needs_34 (by decide) (fun c12 => ?_) (fun c12 => ?_)
        · replace h := ite_t h c12
          refine lv_aload_n hx hb dX9_needs_39 rfl (lv_at hl 0 rfl) ?_
          refine lv_iload_n hx hb dX9_needs_40 rfl (lv_at hl 1 rfl) ?_
          obtain ⟨r13, hr14, h⟩ := bd_of h
          refine wd_callV1 (As := [.int p0]) hC hW 0 wR_c0 rfl (c_X9_leastOf l D cy ad X T1 p0 r13 hr14) (cwV 1 hts (gu_V w_17_11 w_17_8 w_17_9 w_17_10 w_1_5) rfl rfl rfl hdX9_leastOf ⟨Nat.le_of_ble_eq_true rfl, Nat.le_of_ble_eq_true rfl⟩) rfl hl.1 rfl (Nat.le_of_ble_eq_true rfl) ⟨Nat.zero_le _, Nat.zero_le _⟩ dX9_needs_41 (fun H locs hW => ?_)
          refine lv_if_ne (tgt := 50) hx hb dX9_needs_44 (by decide) (fun c15 => ?_) (fun c15 => ?_)
          · replace h := ite_f h c15
            refine lv_bipush (v := 7) hx hb dX9_needs_50 (by decide) ?_
            refine lv_aload_n hx hb dX9_needs_52 rfl (lv_at hl 0 rfl) ?_
            refine wd_get hC i9 hW 0 wR_c0 rfl 11 (Nat.le_of_ble_eq_true rfl) f32 rfl rfl dX9_needs_53 ?_
            refine lv_iconst (v := 0) hx hb dX9_needs_56 (by decide) ?_
            obtain ⟨hi16, h⟩ := ck_of h
            refine wd_iald hC hW 8 wR_c8 hi16 dX9_needs_57 ?_
            refine lv_iadd hx hb dX9_needs_58 ?_
            refine lv_istore_n (lv' := [(3, .int (7 + (T1.2.1 11 ((0 : Int32).toNatClampNeg)))), (0, .ref (ad 0)), (1, .int p0), (2, .int p1)]) hx hb dX9_needs_59 rfl hl (by decide) rfl (fun ls hl => ?_)
            refine lv_aload_n hx hb dX9_needs_60 rfl (lv_at hl 1 rfl) ?_
            refine lv_iload_n hx hb dX9_needs_61 rfl (lv_at hl 2 rfl) ?_
            refine lv_iload_n hx hb dX9_needs_62 rfl (lv_at hl 0 rfl) ?_
            obtain ⟨r17, hr18, h⟩ := bd_of h
            refine wd_callV1 (As := [.int p0, .int (7 + (T1.2.1 11 ((0 : Int32).toNatClampNeg)))]) hC hW 0 wR_c0 rfl (c_X9_of l D cy ad X T1 p0 (7 + (T1.2.1 11 ((0 : Int32).toNatClampNeg))) r17 hr18) (cwV 2 hts (gu_V w_12_0 w_11_21 w_11_22 w_11_23 w_1_5) rfl rfl rfl hdX9_of ⟨Nat.le_of_ble_eq_true rfl, Nat.le_of_ble_eq_true rfl⟩) rfl hl.1 rfl (Nat.le_of_ble_eq_true rfl) ⟨Nat.zero_le _, Nat.zero_le _⟩ dX9_needs_63 (fun H locs hW => ?_)
            refine lv_istore (lv' := [(4, .int r17), (3, .int (7 + (T1.2.1 11 ((0 : Int32).toNatClampNeg)))), (0, .ref (ad 0)), (1, .int p0), (2, .int p1)]) hx hb dX9_needs_66 hl (by decide) rfl (fun ls hl => ?_)
            refine lv_bipush (v := (-3)) hx hb dX9_needs_68 (by decide) ?_
            refine lv_istore (lv' := [(5, .int (-3)), (4, .int r17), (3, .int (7 + (T1.2.1 11 ((0 : Int32).toNatClampNeg)))), (0, .ref (ad 0)), (1, .int p0), (2, .int p1)]) hx hb dX9_needs_70 hl (by decide) rfl (fun ls hl => ?_)
            refine lv_bipush (v := 40) hx hb dX9_needs_72 (by decide) ?_
            refine lv_istore (lv' := [(6, .int 40), (5, .int (-3)), (4, .int r17), (3, .int (7 + (T1.2.1 11 ((0 : Int32).toNatClampNeg)))), (0, .ref (ad 0)), (1, .int p0), (2, .int p1)]) hx hb dX9_needs_74 hl (by decide) rfl (fun ls hl => ?_)
            have hL76 : ∀ (n : Nat) (T : St) (x1 : Int32) (x2 : Int32) (x3 : Int32) (x4 : Int32) (x5 : Int32) (x6 : Int32)  (H : Heap) (locs : List Loc) (ls : Array Slot) (r : (St × Int32)), m_X9_needs_L76 n T x1 x2 x3 x4 x5 x6 = some r → Wd D cy A s (wR ad cy T ++ X) H locs → lv_has ls 7 [(0, .ref (ad 0)), (1, .int x1), (2, .int x2), (3, .int x3), (4, .int x4), (5, .int x5), (6, .int x6)] → (∀ (H : Heap) (locs : List Loc) (ls : Array Slot), Wd D cy A s (wR ad cy r.1 ++ X) H locs → lv_has ls 7 [(0, .ref (ad 0)), (1, .int x1), (2, .int x2), (3, .int x3), (4, .int x4), (5, .int r.2)] → W p l e (RM 4) s m args below meth c H locs 0 0 Q (F0 m 123 ls [])) → W p l e (RM 4) s m args below meth c H locs 0 0 Q (F0 m 76 ls []) := by
              intro n
              induction n with
              | zero =>
                intro T x1 x2 x3 x4 x5 x6  H locs ls r h
                exact absurd (h.symm.trans (m_X9_needs_L76_0 ..)) (by simp)
              | succ n ih =>
                intro T x1 x2 x3 x4 x5 x6  H locs ls r h hW hl kk
                rw [m_X9_needs_L76_s] at h
                refine lv_iload hx hb dX9_needs_76 (lv_at hl 6 rfl) ?_
                refine lv_aload_n hx hb dX9_needs_78 rfl (lv_at hl 0 rfl) ?_
                refine lv_iload_n hx hb dX9_needs_79 rfl (lv_at hl 1 rfl) ?_
                obtain ⟨r21, hr22, h⟩ := bd_of h
                refine wd_callV1 (As := [.int x1]) hC hW 0 wR_c0 rfl (c_X9_leastOf l D cy ad X T x1 r21 hr22) (cwV 1 hts (gu_V w_17_11 w_17_8 w_17_9 w_17_10 w_1_5) rfl rfl rfl hdX9_leastOf ⟨Nat.le_of_ble_eq_true rfl, Nat.le_of_ble_eq_true rfl⟩) rfl hl.1 rfl (Nat.le_of_ble_eq_true rfl) ⟨Nat.zero_le _, Nat.zero_le _⟩ dX9_needs_80 (fun H locs hW => ?_)
                refine lv_icmp_lt (tgt := 123) hx hb dX9_needs_83 (by decide) (fun c23 => ?_) (fun c23 => ?_)
                · replace h := ite_t h c23
                  obtain rfl := Option.some.inj h
                  exact kk _ _ _ hW (lv_sub hl [0, 1, 2, 3, 4, 5] rfl)
                · replace h := ite_f h c23
                  refine lv_aload_n hx hb dX9_needs_86 rfl (lv_at hl 0 rfl) ?_
                  refine lv_iload_n hx hb dX9_needs_87 rfl (lv_at hl 1 rfl) ?_
                  refine lv_iload_n hx hb dX9_needs_88 rfl (lv_at hl 3 rfl) ?_
                  refine lv_iload hx hb dX9_needs_89 (lv_at hl 4 rfl) ?_
                  refine lv_iload hx hb dX9_needs_91 (lv_at hl 6 rfl) ?_
                  refine wd_max hC hl.1 ml100 msmax mi mcmax (Nat.le_of_ble_eq_true rfl) (Nat.le_of_ble_eq_true rfl) (Nat.zero_le _) (Nat.zero_le _) dX9_needs_93 ?_
                  obtain ⟨r24, hr25, h⟩ := bd_of h
                  refine wd_callV0 (As := [.int x1, .int x3, .int (mx x4 x6)]) hC hW 0 wR_c0 rfl (c_X9_sets l D cy ad X T x1 x3 (mx x4 x6) r24 hr25) (cwV 3 hts (gu_V w_12_8 w_12_5 w_12_6 w_12_7 w_1_5) rfl rfl rfl hdX9_sets ⟨Nat.le_of_ble_eq_true rfl, Nat.le_of_ble_eq_true rfl⟩) rfl hl.1 rfl (Nat.le_of_ble_eq_true rfl) ⟨Nat.zero_le _, Nat.zero_le _⟩ dX9_needs_96 (fun H locs hW => ?_)
                  refine lv_aload_n hx hb dX9_needs_99 rfl (lv_at hl 0 rfl) ?_
                  refine lv_iload_n hx hb dX9_needs_100 rfl (lv_at hl 1 rfl) ?_
                  refine lv_iload_n hx hb dX9_needs_101 rfl (lv_at hl 2 rfl) ?_
                  obtain ⟨r26, hr27, h⟩ := bd_of h
                  refine wd_callV1 (As := [.int x1, .int x2]) hC hW 0 wR_c0 rfl (c_X9_isAhead l D cy ad X r24 x1 x2 r26 hr27) (cwV 2 hts (gu_V w_24_3 w_24_0 w_24_1 w_24_2 w_1_5) rfl rfl rfl hdX9_isAhead ⟨Nat.le_of_ble_eq_true rfl, Nat.le_of_ble_eq_true rfl⟩) rfl hl.1 rfl (Nat.le_of_ble_eq_true rfl) ⟨Nat.zero_le _, Nat.zero_le _⟩ dX9_needs_102 (fun H locs hW => ?_)
                  refine lv_if_eq (tgt := 113) hx hb dX9_needs_105 (by decide) (fun c28 => ?_) (fun c28 => ?_)
                  · replace h := ite_t h c28
                    refine lv_iload hx hb dX9_needs_113 (lv_at hl 5 rfl) ?_
                    refine lv_istore (lv' := [(5, .int x5), (0, .ref (ad 0)), (1, .int x1), (2, .int x2), (3, .int x3), (4, .int x4), (6, .int x6)]) hx hb dX9_needs_115 hl (by decide) rfl (fun ls hl => ?_)
                    refine lv_iinc (v := x6 + (-1)) (lv' := [(6, .int (x6 + (-1))), (5, .int x5), (0, .ref (ad 0)), (1, .int x1), (2, .int x2), (3, .int x3), (4, .int x4)]) hx hb dX9_needs_117 hl (k := 6) rfl rfl (by decide) rfl (fun ls hl => ?_)
                    refine lv_goto (tgt := 76) hx hb dX9_needs_120 (by decide) ?_
                    exact ih r24 x1 x2 x3 x4 x5 (x6 + (-1)) _ _ _ r h hW (lv_sub hl [2, 3, 4, 5, 6, 1, 0] rfl) kk
                  · replace h := ite_f h c28
                    refine lv_iload hx hb dX9_needs_108 (lv_at hl 6 rfl) ?_
                    refine lv_goto (tgt := 115) hx hb dX9_needs_110 (by decide) ?_
                    refine lv_istore (lv' := [(5, .int x6), (0, .ref (ad 0)), (1, .int x1), (2, .int x2), (3, .int x3), (4, .int x4), (6, .int x6)]) hx hb dX9_needs_115 hl (by decide) rfl (fun ls hl => ?_)
                    refine lv_iinc (v := x6 + (-1)) (lv' := [(6, .int (x6 + (-1))), (5, .int x6), (0, .ref (ad 0)), (1, .int x1), (2, .int x2), (3, .int x3), (4, .int x4)]) hx hb dX9_needs_117 hl (k := 6) rfl rfl (by decide) rfl (fun ls hl => ?_)
                    refine lv_goto (tgt := 76) hx hb dX9_needs_120 (by decide) ?_
                    exact ih r24 x1 x2 x3 x4 x6 (x6 + (-1)) _ _ _ r h hW (lv_sub hl [2, 3, 4, 5, 6, 1, 0] rfl) kk
            obtain ⟨q19, hq20, h⟩ := bd_of h
            refine hL76 n T1 p0 p1 (7 + (T1.2.1 11 ((0 : Int32).toNatClampNeg))) r17 (-3) 40  _ _ _ q19 hq20 hW (lv_sub hl [4, 5, 6, 3, 2, 1, 0] rfl) (fun H locs ls hW hl => ?_)
            refine lv_aload_n hx hb dX9_needs_123 rfl (lv_at hl 0 rfl) ?_
            refine lv_iload_n hx hb dX9_needs_124 rfl (lv_at hl 1 rfl) ?_
            refine lv_iload_n hx hb dX9_needs_125 rfl (lv_at hl 3 rfl) ?_
            refine lv_iload hx hb dX9_needs_126 (lv_at hl 4 rfl) ?_
            obtain ⟨r29, hr30, h⟩ := bd_of h
            refine wd_callV0 (As := [.int p0, .int (7 + (T1.2.1 11 ((0 : Int32).toNatClampNeg))), .int r17]) hC hW 0 wR_c0 rfl (c_X9_sets l D cy ad X q19.1 p0 (7 + (T1.2.1 11 ((0 : Int32).toNatClampNeg))) r17 r29 hr30) (cwV 3 hts (gu_V w_12_8 w_12_5 w_12_6 w_12_7 w_1_5) rfl rfl rfl hdX9_sets ⟨Nat.le_of_ble_eq_true rfl, Nat.le_of_ble_eq_true rfl⟩) rfl hl.1 rfl (Nat.le_of_ble_eq_true rfl) ⟨Nat.zero_le _, Nat.zero_le _⟩ dX9_needs_128 (fun H locs hW => ?_)
            refine lv_iload hx hb dX9_needs_131 (lv_at hl 5 rfl) ?_
            obtain rfl := Option.some.inj h
            exact wd_iret hA hQ hC hr hk hW dX9_needs_133
          · replace h := ite_t h c15
            refine lv_bipush (v := (-2)) hx hb dX9_needs_47 (by decide) ?_
            obtain rfl := Option.some.inj h
            exact wd_iret hA hQ hC hr hk hW dX9_needs_49
        · replace h := ite_f h c12
          refine lv_iconst (v := 0) hx hb dX9_needs_37 (by decide) ?_
          obtain rfl := Option.some.inj h
          exact wd_iret hA hQ hC hr hk hW dX9_needs_38
      · replace h := ite_t h c9
        refine lv_iconst (v := (-1)) hx hb dX9_needs_26 (by decide) ?_
        obtain rfl := Option.some.inj h
        exact wd_iret hA hQ hC hr hk hW dX9_needs_27
