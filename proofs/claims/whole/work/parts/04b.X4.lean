theorem hdX3_leadsLike : yX3_leadsLike.cls = RX3 ∧ yX3_leadsLike.cls ≠ "java/lang/invoke/MethodHandle" ∧ yX3_leadsLike.cls ≠ "java/lang/invoke/VarHandle" ∧ (parseMethodDescriptor yX3_leadsLike.desc).map (fun d => d.parameters.length) = some 1 := by decide +kernel
theorem hdX3_oddsOf : yX3_oddsOf.cls = RX3 ∧ yX3_oddsOf.cls ≠ "java/lang/invoke/MethodHandle" ∧ yX3_oddsOf.cls ≠ "java/lang/invoke/VarHandle" ∧ (parseMethodDescriptor yX3_oddsOf.desc).map (fun d => d.parameters.length) = some 3 := by decide +kernel
theorem hdX4_closeLift : yX4_closeLift.cls = RX4 ∧ yX4_closeLift.cls ≠ "java/lang/invoke/MethodHandle" ∧ yX4_closeLift.cls ≠ "java/lang/invoke/VarHandle" ∧ (parseMethodDescriptor yX4_closeLift.desc).map (fun d => d.parameters.length) = some 0 := by decide +kernel
theorem hdX4_goOn : yX4_goOn.cls = RX4 ∧ yX4_goOn.cls ≠ "java/lang/invoke/MethodHandle" ∧ yX4_goOn.cls ≠ "java/lang/invoke/VarHandle" ∧ (parseMethodDescriptor yX4_goOn.desc).map (fun d => d.parameters.length) = some 0 := by decide +kernel
theorem hdX4_isAhead : yX4_isAhead.cls = RX4 ∧ yX4_isAhead.cls ≠ "java/lang/invoke/MethodHandle" ∧ yX4_isAhead.cls ≠ "java/lang/invoke/VarHandle" ∧ (parseMethodDescriptor yX4_isAhead.desc).map (fun d => d.parameters.length) = some 2 := by decide +kernel
theorem hdX4_next : yX4_next.cls = RX4 ∧ yX4_next.cls ≠ "java/lang/invoke/MethodHandle" ∧ yX4_next.cls ≠ "java/lang/invoke/VarHandle" ∧ (parseMethodDescriptor yX4_next.desc).map (fun d => d.parameters.length) = some 0 := by decide +kernel
theorem hdX4_oddsNow : yX4_oddsNow.cls = RX4 ∧ yX4_oddsNow.cls ≠ "java/lang/invoke/MethodHandle" ∧ yX4_oddsNow.cls ≠ "java/lang/invoke/VarHandle" ∧ (parseMethodDescriptor yX4_oddsNow.desc).map (fun d => d.parameters.length) = some 1 := by decide +kernel
theorem hdX4_openLift : yX4_openLift.cls = RX4 ∧ yX4_openLift.cls ≠ "java/lang/invoke/MethodHandle" ∧ yX4_openLift.cls ≠ "java/lang/invoke/VarHandle" ∧ (parseMethodDescriptor yX4_openLift.desc).map (fun d => d.parameters.length) = some 0 := by decide +kernel
theorem hdX4_openRound : yX4_openRound.cls = RX4 ∧ yX4_openRound.cls ≠ "java/lang/invoke/MethodHandle" ∧ yX4_openRound.cls ≠ "java/lang/invoke/VarHandle" ∧ (parseMethodDescriptor yX4_openRound.desc).map (fun d => d.parameters.length) = some 1 := by decide +kernel
theorem hdX4_sooner : yX4_sooner.cls = RX4 ∧ yX4_sooner.cls ≠ "java/lang/invoke/MethodHandle" ∧ yX4_sooner.cls ≠ "java/lang/invoke/VarHandle" ∧ (parseMethodDescriptor yX4_sooner.desc).map (fun d => d.parameters.length) = some 2 := by decide +kernel
theorem hdX4_sumOf : yX4_sumOf.cls = RX4 ∧ yX4_sumOf.cls ≠ "java/lang/invoke/MethodHandle" ∧ yX4_sumOf.cls ≠ "java/lang/invoke/VarHandle" ∧ (parseMethodDescriptor yX4_sumOf.desc).map (fun d => d.parameters.length) = some 1 := by decide +kernel
theorem hdX4_take : yX4_take.cls = RX4 ∧ yX4_take.cls ≠ "java/lang/invoke/MethodHandle" ∧ yX4_take.cls ≠ "java/lang/invoke/VarHandle" ∧ (parseMethodDescriptor yX4_take.desc).map (fun d => d.parameters.length) = some 2 := by decide +kernel
theorem hdX4_waits : yX4_waits.cls = RX4 ∧ yX4_waits.cls ≠ "java/lang/invoke/MethodHandle" ∧ yX4_waits.cls ≠ "java/lang/invoke/VarHandle" ∧ (parseMethodDescriptor yX4_waits.desc).map (fun d => d.parameters.length) = some 1 := by decide +kernel
def m_X4_waits (ib ab : Nat) (S : St) (p0 : Int32) : Option (Int32) :=
  ck p0 6 (if (S.2.1 (ab + 1) p0.toNatClampNeg) ≤ 0 then (some 0) else (ck p0 6 (if (S.2.1 (ab + 2) p0.toNatClampNeg) = 0 then (some 1) else (some 0))))
set_option maxHeartbeats 4000000 in
set_option maxRecDepth 100000 in
theorem c_X4_waitsM (l : Launch) (D : va_G) (cy : Nat → ClassId) (ad : Nat → Nat) (X : va_W) (S : St) (p0 : Int32) (r : (Int32)) (h : m_X4_waits 30 25 S p0 = some r) : CT l yX4_waits (wu yX4_waits cX4_waits 2 (some .boolean)) 0 D cy [.ref (ad 25), .int p0] (wC ad cy S ++ X) (some (.int r)) (wC ad cy S ++ X) := by
  refine CT.mk (cc := cX4_waits) (maxL := 2) (ret := (some .boolean)) (own := RX4) (by decide) rfl rfl (Nat.le_of_ble_eq_true rfl) ?_
  intro p e s m args below meth c ls A Q hA hQ hC hr hk hW hl
  have hx := hC.1
  have hb := hC.2.1
  have hown := hC.2.2.2.1
  have hts := hC.2.2.2.2
  have hl : lv_has ls 2 [(0, .ref (ad 25)), (1, .int p0)] := hl
  have f27 := hts _ (wu_in w_3_19)
  have i4 := (fun w h => wu_in (inc_4 w h) : ∀ w ∈ u_ws RX4 TX4 16, w ∈ (wu yX4_waits cX4_waits 2 (some .boolean)))
  have f31 := hts _ (wu_in w_3_21)
  unfold m_X4_waits at h
  refine lv_aload_n hx hb dX4_waits_0 rfl (lv_at hl 0 rfl) ?_
  refine wd_get hC i4 hW 25 wC_c25 rfl 6 (Nat.le_of_ble_eq_true rfl) f27 rfl rfl dX4_waits_1 ?_
  refine lv_iload_n hx hb dX4_waits_4 rfl (lv_at hl 1 rfl) ?_
  obtain ⟨hi1, h⟩ := ck_of h
  refine wd_iald hC hW 26 wC_c26 hi1 dX4_waits_5 ?_
  refine lv_if_le (tgt := 22) hx hb dX4_waits_6 (by decide) (fun c2 => ?_) (fun c2 => ?_)
  · replace h := ite_t h c2
    refine lv_iconst (v := 0) hx hb dX4_waits_22 (by decide) ?_
    obtain rfl := Option.some.inj h
    exact wd_zret hA hQ hC hr hk hW rfl dX4_waits_23
  · replace h := ite_f h c2
    refine lv_aload_n hx hb dX4_waits_9 rfl (lv_at hl 0 rfl) ?_
    refine wd_get hC i4 hW 25 wC_c25 rfl 7 (Nat.le_of_ble_eq_true rfl) f31 rfl rfl dX4_waits_10 ?_
    refine lv_iload_n hx hb dX4_waits_13 rfl (lv_at hl 1 rfl) ?_
    obtain ⟨hi3, h⟩ := ck_of h
    refine wd_zald hC hW 27 wC_c27 hi3 dX4_waits_14 ?_
    refine lv_if_ne (tgt := 22) hx hb dX4_waits_15 (by decide) (fun c4 => ?_) (fun c4 => ?_)
    · replace h := ite_f h c4
      refine lv_iconst (v := 0) hx hb dX4_waits_22 (by decide) ?_
      obtain rfl := Option.some.inj h
      exact wd_zret hA hQ hC hr hk hW rfl dX4_waits_23
    · replace h := ite_t h c4
      refine lv_iconst (v := 1) hx hb dX4_waits_18 (by decide) ?_
      refine lv_goto (tgt := 23) hx hb dX4_waits_19 (by decide) ?_
      obtain rfl := Option.some.inj h
      exact wd_zret hA hQ hC hr hk hW rfl dX4_waits_23
set_option maxHeartbeats 4000000 in
set_option maxRecDepth 100000 in
theorem c_X4_waitsD (l : Launch) (D : va_G) (cy : Nat → ClassId) (ad : Nat → Nat) (X : va_W) (S : St) (p0 : Int32) (r : (Int32)) (h : m_X4_waits 40 34 S p0 = some r) : CT l yX4_waits (wu yX4_waits cX4_waits 2 (some .boolean)) 0 D cy [.ref (ad 34), .int p0] (wC ad cy S ++ X) (some (.int r)) (wC ad cy S ++ X) := by
  refine CT.mk (cc := cX4_waits) (maxL := 2) (ret := (some .boolean)) (own := RX4) (by decide) rfl rfl (Nat.le_of_ble_eq_true rfl) ?_
  intro p e s m args below meth c ls A Q hA hQ hC hr hk hW hl
  have hx := hC.1
  have hb := hC.2.1
  have hown := hC.2.2.2.1
  have hts := hC.2.2.2.2
  have hl : lv_has ls 2 [(0, .ref (ad 34)), (1, .int p0)] := hl
  have f27 := hts _ (wu_in w_3_19)
  have i4 := (fun w h => wu_in (inc_4 w h) : ∀ w ∈ u_ws RX4 TX4 16, w ∈ (wu yX4_waits cX4_waits 2 (some .boolean)))
  have f31 := hts _ (wu_in w_3_21)
  unfold m_X4_waits at h
  refine lv_aload_n hx hb dX4_waits_0 rfl (lv_at hl 0 rfl) ?_
  refine wd_get hC i4 hW 34 wC_c34 rfl 6 (Nat.le_of_ble_eq_true rfl) f27 rfl rfl dX4_waits_1 ?_
  refine lv_iload_n hx hb dX4_waits_4 rfl (lv_at hl 1 rfl) ?_
  obtain ⟨hi1, h⟩ := ck_of h
  refine wd_iald hC hW 35 wC_c35 hi1 dX4_waits_5 ?_
  refine lv_if_le (tgt := 22) hx hb dX4_waits_6 (by decide) (fun c2 => ?_) (fun c2 => ?_)
  · replace h := ite_t h c2
    refine lv_iconst (v := 0) hx hb dX4_waits_22 (by decide) ?_
    obtain rfl := Option.some.inj h
    exact wd_zret hA hQ hC hr hk hW rfl dX4_waits_23
  · replace h := ite_f h c2
    refine lv_aload_n hx hb dX4_waits_9 rfl (lv_at hl 0 rfl) ?_
    refine wd_get hC i4 hW 34 wC_c34 rfl 7 (Nat.le_of_ble_eq_true rfl) f31 rfl rfl dX4_waits_10 ?_
    refine lv_iload_n hx hb dX4_waits_13 rfl (lv_at hl 1 rfl) ?_
    obtain ⟨hi3, h⟩ := ck_of h
    refine wd_zald hC hW 36 wC_c36 hi3 dX4_waits_14 ?_
    refine lv_if_ne (tgt := 22) hx hb dX4_waits_15 (by decide) (fun c4 => ?_) (fun c4 => ?_)
    · replace h := ite_f h c4
      refine lv_iconst (v := 0) hx hb dX4_waits_22 (by decide) ?_
      obtain rfl := Option.some.inj h
      exact wd_zret hA hQ hC hr hk hW rfl dX4_waits_23
    · replace h := ite_t h c4
      refine lv_iconst (v := 1) hx hb dX4_waits_18 (by decide) ?_
      refine lv_goto (tgt := 23) hx hb dX4_waits_19 (by decide) ?_
      obtain rfl := Option.some.inj h
      exact wd_zret hA hQ hC hr hk hW rfl dX4_waits_23
def m_X4_sooner_L5 (ib ab : Nat) : Nat → St → Int32 → Int32 → Int32 → Int32 → Option (Int32)
  | 0, _, _, _, _, _ => none
  | n + 1, S, x1, x2, x3, x4 =>
    if (S.1 (ib + 0)) ≤ x4 then (some x3) else (if x4 = x1 then (m_X4_sooner_L5 ib ab n S x1 x2 x3 (x4 + 1)) else ((m_X4_waits ib ab S x4).bind (fun r5 => if r5 = 0 then (m_X4_sooner_L5 ib ab n S x1 x2 x3 (x4 + 1)) else (ck x4 6 (if (S.2.1 (ab + 1) x4.toNatClampNeg) = x2 then (ck x4 7 (ck x1 7 (if (S.1 (11 + 2 * x1.toNatClampNeg)) ≤ (S.1 (11 + 2 * x4.toNatClampNeg)) then (m_X4_sooner_L5 ib ab n S x1 x2 x3 (x4 + 1)) else (m_X4_sooner_L5 ib ab n S x1 x2 (x3 + 1) (x4 + 1))))) else (ck x4 6 (if x2 ≤ (S.2.1 (ab + 1) x4.toNatClampNeg) then (m_X4_sooner_L5 ib ab n S x1 x2 x3 (x4 + 1)) else (m_X4_sooner_L5 ib ab n S x1 x2 (x3 + 1) (x4 + 1)))))))))
theorem m_X4_sooner_L5_0 {ib ab : Nat} (S : St) (x1 : Int32) (x2 : Int32) (x3 : Int32) (x4 : Int32) : m_X4_sooner_L5 ib ab 0 S x1 x2 x3 x4 = none := rfl
theorem m_X4_sooner_L5_s {ib ab : Nat} {n : Nat} {S : St} {x1 : Int32} {x2 : Int32} {x3 : Int32} {x4 : Int32} : m_X4_sooner_L5 ib ab (n + 1) S x1 x2 x3 x4 =
    (if (S.1 (ib + 0)) ≤ x4 then (some x3) else (if x4 = x1 then (m_X4_sooner_L5 ib ab n S x1 x2 x3 (x4 + 1)) else ((m_X4_waits ib ab S x4).bind (fun r5 => if r5 = 0 then (m_X4_sooner_L5 ib ab n S x1 x2 x3 (x4 + 1)) else (ck x4 6 (if (S.2.1 (ab + 1) x4.toNatClampNeg) = x2 then (ck x4 7 (ck x1 7 (if (S.1 (11 + 2 * x1.toNatClampNeg)) ≤ (S.1 (11 + 2 * x4.toNatClampNeg)) then (m_X4_sooner_L5 ib ab n S x1 x2 x3 (x4 + 1)) else (m_X4_sooner_L5 ib ab n S x1 x2 (x3 + 1) (x4 + 1))))) else (ck x4 6 (if x2 ≤ (S.2.1 (ab + 1) x4.toNatClampNeg) then (m_X4_sooner_L5 ib ab n S x1 x2 x3 (x4 + 1)) else (m_X4_sooner_L5 ib ab n S x1 x2 (x3 + 1) (x4 + 1)))))))))) := rfl
def m_X4_sooner (ib ab : Nat) (n : Nat) (S : St) (p0 : Int32) (p1 : Int32) : Option (Int32) :=
  (m_X4_sooner_L5 ib ab n S p0 p1 0 0).bind (fun q1 => some q1)
set_option maxHeartbeats 4000000 in
set_option maxRecDepth 100000 in
theorem c_X4_soonerM (l : Launch) (D : va_G) (cy : Nat → ClassId) (ad : Nat → Nat) (X : va_W) (n : Nat) (S : St) (p0 : Int32) (p1 : Int32) (r : (Int32)) (h : m_X4_sooner 30 25 n S p0 p1 = some r) : CT l yX4_sooner (wu yX4_sooner cX4_sooner 6 (some .int)) 1 D cy [.ref (ad 25), .int p0, .int p1] (wC ad cy S ++ X) (some (.int r)) (wC ad cy S ++ X) := by
  refine CT.mk (cc := cX4_sooner) (maxL := 6) (ret := (some .int)) (own := RX4) (by decide) rfl rfl (Nat.le_of_ble_eq_true rfl) ?_
  intro p e s m args below meth c ls A Q hA hQ hC hr hk hW hl
  have hx := hC.1
  have hb := hC.2.1
  have hown := hC.2.2.2.1
  have hts := hC.2.2.2.2
  have hl : lv_has ls 6 [(0, .ref (ad 25)), (1, .int p0), (2, .int p1)] := hl
  have f9 := hts _ (wu_in w_3_14)
  have i4 := (fun w h => wu_in (inc_4 w h) : ∀ w ∈ u_ws RX4 TX4 16, w ∈ (wu yX4_sooner cX4_sooner 6 (some .int)))
  have f27 := hts _ (wu_in w_3_19)
  have f59 := hts _ (wu_in w_4_6)
  have f90 := hts _ (wu_in w_18_12)
  have i3 := (fun w h => wu_in (inc_3 w h) : ∀ w ∈ u_ws RX3 TX3 4, w ∈ (wu yX4_sooner cX4_sooner 6 (some .int)))
  unfold m_X4_sooner at h
  refine lv_iconst (v := 0) hx hb dX4_sooner_0 (by decide) ?_
  refine lv_istore_n (lv' := [(3, .int 0), (0, .ref (ad 25)), (1, .int p0), (2, .int p1)]) hx hb dX4_sooner_1 rfl hl (by decide) rfl (fun ls hl => ?_)
  refine lv_iconst (v := 0) hx hb dX4_sooner_2 (by decide) ?_
  refine lv_istore (lv' := [(4, .int 0), (3, .int 0), (0, .ref (ad 25)), (1, .int p0), (2, .int p1)]) hx hb dX4_sooner_3 hl (by decide) rfl (fun ls hl => ?_)
  have hL5 : ∀ (n : Nat) (x1 : Int32) (x2 : Int32) (x3 : Int32) (x4 : Int32)  (H : Heap) (locs : List Loc) (ls : Array Slot) (r : (Int32)), m_X4_sooner_L5 30 25 n S x1 x2 x3 x4 = some r → Wd D cy A s (wC ad cy S ++ X) H locs → lv_has ls 6 [(0, .ref (ad 25)), (1, .int x1), (2, .int x2), (3, .int x3), (4, .int x4)] → (∀ (H : Heap) (locs : List Loc) (ls : Array Slot), Wd D cy A s (wC ad cy S ++ X) H locs → lv_has ls 6 [(0, .ref (ad 25)), (1, .int x1), (2, .int x2), (3, .int r)] → W p l e (RM 1) s m args below meth c H locs 0 0 Q (F0 m 102 ls [])) → W p l e (RM 1) s m args below meth c H locs 0 0 Q (F0 m 5 ls []) := by
    intro n
    induction n with
    | zero =>
      intro x1 x2 x3 x4  H locs ls r h
      exact absurd (h.symm.trans (m_X4_sooner_L5_0 ..)) (by simp)
    | succ n ih =>
      intro x1 x2 x3 x4  H locs ls r h hW hl kk
      rw [m_X4_sooner_L5_s] at h
      refine lv_iload hx hb dX4_sooner_5 (lv_at hl 4 rfl) ?_
      refine lv_aload_n hx hb dX4_sooner_7 rfl (lv_at hl 0 rfl) ?_
      refine wd_get hC i4 hW 25 wC_c25 rfl 1 (Nat.le_of_ble_eq_true rfl) f9 rfl rfl dX4_sooner_8 ?_
      refine lv_icmp_ge (tgt := 102) hx hb dX4_sooner_11 (by decide) (fun c3 => ?_) (fun c3 => ?_)
      · replace h := ite_t h c3
        obtain rfl := Option.some.inj h
        exact kk _ _ _ hW (lv_sub hl [0, 1, 2, 3] rfl)
      · replace h := ite_f h c3
        refine lv_iload hx hb dX4_sooner_14 (lv_at hl 4 rfl) ?_
        refine lv_iload_n hx hb dX4_sooner_16 rfl (lv_at hl 1 rfl) ?_
        refine lv_icmp_eq (tgt := 96) hx hb dX4_sooner_17 (by decide) (fun c4 => ?_) (fun c4 => ?_)
        · replace h := ite_t h c4
          refine lv_iinc (v := x4 + 1) (lv' := [(4, .int (x4 + 1)), (0, .ref (ad 25)), (1, .int x1), (2, .int x2), (3, .int x3)]) hx hb dX4_sooner_96 hl (k := 4) rfl rfl (by decide) rfl (fun ls hl => ?_)
          refine lv_goto (tgt := 5) hx hb dX4_sooner_99 (by decide) ?_
          exact ih x1 x2 x3 (x4 + 1) _ _ _ r h hW (lv_sub hl [1, 2, 3, 4, 0] rfl) kk
        · replace h := ite_f h c4
          refine lv_aload_n hx hb dX4_sooner_20 rfl (lv_at hl 0 rfl) ?_
          refine lv_iload hx hb dX4_sooner_21 (lv_at hl 4 rfl) ?_
          obtain ⟨r5, hr6, h⟩ := bd_of h
          refine wd_callV1 (As := [.int x4]) hC hW 25 wC_c25 rfl (c_X4_waitsM l D cy ad X S x4 r5 hr6) (cwV 1 hts (gu_V w_16_23 w_18_7 w_16_21 w_16_22 w_1_23) rfl rfl rfl hdX4_waits ⟨Nat.le_of_ble_eq_true rfl, Nat.le_of_ble_eq_true rfl⟩) rfl hl.1 rfl (Nat.le_of_ble_eq_true rfl) ⟨Nat.zero_le _, Nat.zero_le _⟩ dX4_sooner_23 (fun H locs hW => ?_)
          refine lv_if_eq (tgt := 96) hx hb dX4_sooner_26 (by decide) (fun c7 => ?_) (fun c7 => ?_)
          · replace h := ite_t h c7
            refine lv_iinc (v := x4 + 1) (lv' := [(4, .int (x4 + 1)), (0, .ref (ad 25)), (1, .int x1), (2, .int x2), (3, .int x3)]) hx hb dX4_sooner_96 hl (k := 4) rfl rfl (by decide) rfl (fun ls hl => ?_)
            refine lv_goto (tgt := 5) hx hb dX4_sooner_99 (by decide) ?_
            exact ih x1 x2 x3 (x4 + 1) _ _ _ r h hW (lv_sub hl [1, 2, 3, 4, 0] rfl) kk
          · replace h := ite_f h c7
            refine lv_aload_n hx hb dX4_sooner_29 rfl (lv_at hl 0 rfl) ?_
            refine wd_get hC i4 hW 25 wC_c25 rfl 6 (Nat.le_of_ble_eq_true rfl) f27 rfl rfl dX4_sooner_30 ?_
            refine lv_iload hx hb dX4_sooner_33 (lv_at hl 4 rfl) ?_
            obtain ⟨hi8, h⟩ := ck_of h
            refine wd_iald hC hW 26 wC_c26 hi8 dX4_sooner_35 ?_
            refine lv_iload_n hx hb dX4_sooner_36 rfl (lv_at hl 2 rfl) ?_
            refine lv_icmp_eq (tgt := 59) hx hb dX4_sooner_37 (by decide) (fun c9 => ?_) (fun c9 => ?_)
            · replace h := ite_t h c9
              refine lv_aload_n hx hb dX4_sooner_59 rfl (lv_at hl 0 rfl) ?_
              refine wd_get hC i4 hW 25 wC_c25 rfl 0 (Nat.le_of_ble_eq_true rfl) f59 rfl rfl dX4_sooner_60 ?_
              refine lv_iload hx hb dX4_sooner_63 (lv_at hl 4 rfl) ?_
              obtain ⟨hi10, h⟩ := ck_of h
              refine wd_aldq hC hW 3 wC_c3 hi10 rfl dX4_sooner_65 ?_
              refine wd_get hC i3 hW (4 + 3 * x4.toNatClampNeg) (wC_L (in_lt hi10)) rfl 1 (Nat.le_of_ble_eq_true rfl) f90 rfl rfl dX4_sooner_66 ?_
              refine lv_aload_n hx hb dX4_sooner_69 rfl (lv_at hl 0 rfl) ?_
              refine wd_get hC i4 hW 25 wC_c25 rfl 0 (Nat.le_of_ble_eq_true rfl) f59 rfl rfl dX4_sooner_70 ?_
              refine lv_iload_n hx hb dX4_sooner_73 rfl (lv_at hl 1 rfl) ?_
              obtain ⟨hi11, h⟩ := ck_of h
              refine wd_aldq hC hW 3 wC_c3 hi11 rfl dX4_sooner_74 ?_
              refine wd_get hC i3 hW (4 + 3 * x1.toNatClampNeg) (wC_L (in_lt hi11)) rfl 1 (Nat.le_of_ble_eq_true rfl) f90 rfl rfl dX4_sooner_75 ?_
              refine lv_icmp_ge (tgt := 85) hx hb dX4_sooner_78 (by decide) (fun c12 => ?_) (fun c12 => ?_)
              · replace h := ite_t h c12
                refine lv_iconst (v := 0) hx hb dX4_sooner_85 (by decide) ?_
                refine lv_istore (lv' := [(5, .int 0), (0, .ref (ad 25)), (1, .int x1), (2, .int x2), (3, .int x3), (4, .int x4)]) hx hb dX4_sooner_86 hl (by decide) rfl (fun ls hl => ?_)
                refine lv_iload hx hb dX4_sooner_88 (lv_at hl 0 rfl) ?_
                refine lv_if_eq (tgt := 96) hx hb dX4_sooner_90 (by decide) (fun c => ?_) (fun c => absurd (by decide) c)
                refine lv_iinc (v := x4 + 1) (lv' := [(4, .int (x4 + 1)), (5, .int 0), (0, .ref (ad 25)), (1, .int x1), (2, .int x2), (3, .int x3)]) hx hb dX4_sooner_96 hl (k := 5) rfl rfl (by decide) rfl (fun ls hl => ?_)
                refine lv_goto (tgt := 5) hx hb dX4_sooner_99 (by decide) ?_
                exact ih x1 x2 x3 (x4 + 1) _ _ _ r h hW (lv_sub hl [2, 3, 4, 5, 0] rfl) kk
              · replace h := ite_f h c12
                refine lv_iconst (v := 1) hx hb dX4_sooner_81 (by decide) ?_
                refine lv_goto (tgt := 86) hx hb dX4_sooner_82 (by decide) ?_
                refine lv_istore (lv' := [(5, .int 1), (0, .ref (ad 25)), (1, .int x1), (2, .int x2), (3, .int x3), (4, .int x4)]) hx hb dX4_sooner_86 hl (by decide) rfl (fun ls hl => ?_)
                refine lv_iload hx hb dX4_sooner_88 (lv_at hl 0 rfl) ?_
                refine lv_if_eq (tgt := 96) hx hb dX4_sooner_90 (by decide) (fun c => absurd c (by decide)) (fun c => ?_)
                refine lv_iinc (v := x3 + 1) (lv' := [(3, .int (x3 + 1)), (5, .int 1), (0, .ref (ad 25)), (1, .int x1), (2, .int x2), (4, .int x4)]) hx hb dX4_sooner_93 hl (k := 4) rfl rfl (by decide) rfl (fun ls hl => ?_)
                refine lv_iinc (v := x4 + 1) (lv' := [(4, .int (x4 + 1)), (3, .int (x3 + 1)), (5, .int 1), (0, .ref (ad 25)), (1, .int x1), (2, .int x2)]) hx hb dX4_sooner_96 hl (k := 5) rfl rfl (by decide) rfl (fun ls hl => ?_)
                refine lv_goto (tgt := 5) hx hb dX4_sooner_99 (by decide) ?_
                exact ih x1 x2 (x3 + 1) (x4 + 1) _ _ _ r h hW (lv_sub hl [3, 4, 5, 1, 0] rfl) kk
            · replace h := ite_f h c9
              refine lv_aload_n hx hb dX4_sooner_40 rfl (lv_at hl 0 rfl) ?_
              refine wd_get hC i4 hW 25 wC_c25 rfl 6 (Nat.le_of_ble_eq_true rfl) f27 rfl rfl dX4_sooner_41 ?_
              refine lv_iload hx hb dX4_sooner_44 (lv_at hl 4 rfl) ?_
              obtain ⟨hi13, h⟩ := ck_of h
              refine wd_iald hC hW 26 wC_c26 hi13 dX4_sooner_46 ?_
              refine lv_iload_n hx hb dX4_sooner_47 rfl (lv_at hl 2 rfl) ?_
              refine lv_icmp_ge (tgt := 55) hx hb dX4_sooner_48 (by decide) (fun c14 => ?_) (fun c14 => ?_)
              · replace h := ite_t h c14
                refine lv_iconst (v := 0) hx hb dX4_sooner_55 (by decide) ?_
                refine lv_goto (tgt := 86) hx hb dX4_sooner_56 (by decide) ?_
                refine lv_istore (lv' := [(5, .int 0), (0, .ref (ad 25)), (1, .int x1), (2, .int x2), (3, .int x3), (4, .int x4)]) hx hb dX4_sooner_86 hl (by decide) rfl (fun ls hl => ?_)
                refine lv_iload hx hb dX4_sooner_88 (lv_at hl 0 rfl) ?_
                refine lv_if_eq (tgt := 96) hx hb dX4_sooner_90 (by decide) (fun c => ?_) (fun c => absurd (by decide) c)
                refine lv_iinc (v := x4 + 1) (lv' := [(4, .int (x4 + 1)), (5, .int 0), (0, .ref (ad 25)), (1, .int x1), (2, .int x2), (3, .int x3)]) hx hb dX4_sooner_96 hl (k := 5) rfl rfl (by decide) rfl (fun ls hl => ?_)
                refine lv_goto (tgt := 5) hx hb dX4_sooner_99 (by decide) ?_
                exact ih x1 x2 x3 (x4 + 1) _ _ _ r h hW (lv_sub hl [2, 3, 4, 5, 0] rfl) kk
              · replace h := ite_f h c14
                refine lv_iconst (v := 1) hx hb dX4_sooner_51 (by decide) ?_
                refine lv_goto (tgt := 86) hx hb dX4_sooner_52 (by decide) ?_
                refine lv_istore (lv' := [(5, .int 1), (0, .ref (ad 25)), (1, .int x1), (2, .int x2), (3, .int x3), (4, .int x4)]) hx hb dX4_sooner_86 hl (by decide) rfl (fun ls hl => ?_)
                refine lv_iload hx hb dX4_sooner_88 (lv_at hl 0 rfl) ?_
                refine lv_if_eq (tgt := 96) hx hb dX4_sooner_90 (by decide) (fun c => absurd c (by decide)) (fun c => ?_)
                refine lv_iinc (v := x3 + 1) (lv' := [(3, .int (x3 + 1)), (5, .int 1), (0, .ref (ad 25)), (1, .int x1), (2, .int x2), (4, .int x4)]) hx hb dX4_sooner_93 hl (k := 4) rfl rfl (by decide) rfl (fun ls hl => ?_)
                refine lv_iinc (v := x4 + 1) (lv' := [(4, .int (x4 + 1)), (3, .int (x3 + 1)), (5, .int 1), (0, .ref (ad 25)), (1, .int x1), (2, .int x2)]) hx hb dX4_sooner_96 hl (k := 5) rfl rfl (by decide) rfl (fun ls hl => ?_)
                refine lv_goto (tgt := 5) hx hb dX4_sooner_99 (by decide) ?_
                exact ih x1 x2 (x3 + 1) (x4 + 1) _ _ _ r h hW (lv_sub hl [3, 4, 5, 1, 0] rfl) kk
  obtain ⟨q1, hq2, h⟩ := bd_of h
  refine hL5 n p0 p1 0 0  _ _ _ q1 hq2 hW (lv_sub hl [2, 3, 4, 1, 0] rfl) (fun H locs ls hW hl => ?_)
  refine lv_iload_n hx hb dX4_sooner_102 rfl (lv_at hl 3 rfl) ?_
  obtain rfl := Option.some.inj h
  exact wd_iret hA hQ hC hr hk hW dX4_sooner_103
set_option maxHeartbeats 4000000 in
set_option maxRecDepth 100000 in
theorem c_X4_soonerD (l : Launch) (D : va_G) (cy : Nat → ClassId) (ad : Nat → Nat) (X : va_W) (n : Nat) (S : St) (p0 : Int32) (p1 : Int32) (r : (Int32)) (h : m_X4_sooner 40 34 n S p0 p1 = some r) : CT l yX4_sooner (wu yX4_sooner cX4_sooner 6 (some .int)) 1 D cy [.ref (ad 34), .int p0, .int p1] (wC ad cy S ++ X) (some (.int r)) (wC ad cy S ++ X) := by
  refine CT.mk (cc := cX4_sooner) (maxL := 6) (ret := (some .int)) (own := RX4) (by decide) rfl rfl (Nat.le_of_ble_eq_true rfl) ?_
  intro p e s m args below meth c ls A Q hA hQ hC hr hk hW hl
  have hx := hC.1
  have hb := hC.2.1
  have hown := hC.2.2.2.1
  have hts := hC.2.2.2.2
  have hl : lv_has ls 6 [(0, .ref (ad 34)), (1, .int p0), (2, .int p1)] := hl
  have f9 := hts _ (wu_in w_3_14)
  have i4 := (fun w h => wu_in (inc_4 w h) : ∀ w ∈ u_ws RX4 TX4 16, w ∈ (wu yX4_sooner cX4_sooner 6 (some .int)))
  have f27 := hts _ (wu_in w_3_19)
  have f59 := hts _ (wu_in w_4_6)
  have f90 := hts _ (wu_in w_18_12)
  have i3 := (fun w h => wu_in (inc_3 w h) : ∀ w ∈ u_ws RX3 TX3 4, w ∈ (wu yX4_sooner cX4_sooner 6 (some .int)))
  unfold m_X4_sooner at h
  refine lv_iconst (v := 0) hx hb dX4_sooner_0 (by decide) ?_
  refine lv_istore_n (lv' := [(3, .int 0), (0, .ref (ad 34)), (1, .int p0), (2, .int p1)]) hx hb dX4_sooner_1 rfl hl (by decide) rfl (fun ls hl => ?_)
  refine lv_iconst (v := 0) hx hb dX4_sooner_2 (by decide) ?_
  refine lv_istore (lv' := [(4, .int 0), (3, .int 0), (0, .ref (ad 34)), (1, .int p0), (2, .int p1)]) hx hb dX4_sooner_3 hl (by decide) rfl (fun ls hl => ?_)
  have hL5 : ∀ (n : Nat) (x1 : Int32) (x2 : Int32) (x3 : Int32) (x4 : Int32)  (H : Heap) (locs : List Loc) (ls : Array Slot) (r : (Int32)), m_X4_sooner_L5 40 34 n S x1 x2 x3 x4 = some r → Wd D cy A s (wC ad cy S ++ X) H locs → lv_has ls 6 [(0, .ref (ad 34)), (1, .int x1), (2, .int x2), (3, .int x3), (4, .int x4)] → (∀ (H : Heap) (locs : List Loc) (ls : Array Slot), Wd D cy A s (wC ad cy S ++ X) H locs → lv_has ls 6 [(0, .ref (ad 34)), (1, .int x1), (2, .int x2), (3, .int r)] → W p l e (RM 1) s m args below meth c H locs 0 0 Q (F0 m 102 ls [])) → W p l e (RM 1) s m args below meth c H locs 0 0 Q (F0 m 5 ls []) := by
    intro n
    induction n with
    | zero =>
      intro x1 x2 x3 x4  H locs ls r h
      exact absurd (h.symm.trans (m_X4_sooner_L5_0 ..)) (by simp)
    | succ n ih =>
      intro x1 x2 x3 x4  H locs ls r h hW hl kk
      rw [m_X4_sooner_L5_s] at h
      refine lv_iload hx hb dX4_sooner_5 (lv_at hl 4 rfl) ?_
      refine lv_aload_n hx hb dX4_sooner_7 rfl (lv_at hl 0 rfl) ?_
      refine wd_get hC i4 hW 34 wC_c34 rfl 1 (Nat.le_of_ble_eq_true rfl) f9 rfl rfl dX4_sooner_8 ?_
      refine lv_icmp_ge (tgt := 102) hx hb dX4_sooner_11 (by decide) (fun c3 => ?_) (fun c3 => ?_)
      · replace h := ite_t h c3
        obtain rfl := Option.some.inj h
        exact kk _ _ _ hW (lv_sub hl [0, 1, 2, 3] rfl)
      · replace h := ite_f h c3
        refine lv_iload hx hb dX4_sooner_14 (lv_at hl 4 rfl) ?_
        refine lv_iload_n hx hb dX4_sooner_16 rfl (lv_at hl 1 rfl) ?_
        refine lv_icmp_eq (tgt := 96) hx hb dX4_sooner_17 (by decide) (fun c4 => ?_) (fun c4 => ?_)
        · replace h := ite_t h c4
          refine lv_iinc (v := x4 + 1) (lv' := [(4, .int (x4 + 1)), (0, .ref (ad 34)), (1, .int x1), (2, .int x2), (3, .int x3)]) hx hb dX4_sooner_96 hl (k := 4) rfl rfl (by decide) rfl (fun ls hl => ?_)
          refine lv_goto (tgt := 5) hx hb dX4_sooner_99 (by decide) ?_
          exact ih x1 x2 x3 (x4 + 1) _ _ _ r h hW (lv_sub hl [1, 2, 3, 4, 0] rfl) kk
        · replace h := ite_f h c4
          refine lv_aload_n hx hb dX4_sooner_20 rfl (lv_at hl 0 rfl) ?_
          refine lv_iload hx hb dX4_sooner_21 (lv_at hl 4 rfl) ?_
          obtain ⟨r5, hr6, h⟩ := bd_of h
          refine wd_callV1 (As := [.int x4]) hC hW 34 wC_c34 rfl (c_X4_waitsD l D cy ad X S x4 r5 hr6) (cwV 1 hts (gu_V w_16_23 w_18_7 w_16_21 w_16_22 w_1_23) rfl rfl rfl hdX4_waits ⟨Nat.le_of_ble_eq_true rfl, Nat.le_of_ble_eq_true rfl⟩) rfl hl.1 rfl (Nat.le_of_ble_eq_true rfl) ⟨Nat.zero_le _, Nat.zero_le _⟩ dX4_sooner_23 (fun H locs hW => ?_)
          refine lv_if_eq (tgt := 96) hx hb dX4_sooner_26 (by decide) (fun c7 => ?_) (fun c7 => ?_)
          · replace h := ite_t h c7
            refine lv_iinc (v := x4 + 1) (lv' := [(4, .int (x4 + 1)), (0, .ref (ad 34)), (1, .int x1), (2, .int x2), (3, .int x3)]) hx hb dX4_sooner_96 hl (k := 4) rfl rfl (by decide) rfl (fun ls hl => ?_)
            refine lv_goto (tgt := 5) hx hb dX4_sooner_99 (by decide) ?_
            exact ih x1 x2 x3 (x4 + 1) _ _ _ r h hW (lv_sub hl [1, 2, 3, 4, 0] rfl) kk
          · replace h := ite_f h c7
            refine lv_aload_n hx hb dX4_sooner_29 rfl (lv_at hl 0 rfl) ?_
            refine wd_get hC i4 hW 34 wC_c34 rfl 6 (Nat.le_of_ble_eq_true rfl) f27 rfl rfl dX4_sooner_30 ?_
            refine lv_iload hx hb dX4_sooner_33 (lv_at hl 4 rfl) ?_
            obtain ⟨hi8, h⟩ := ck_of h
            refine wd_iald hC hW 35 wC_c35 hi8 dX4_sooner_35 ?_
            refine lv_iload_n hx hb dX4_sooner_36 rfl (lv_at hl 2 rfl) ?_
            refine lv_icmp_eq (tgt := 59) hx hb dX4_sooner_37 (by decide) (fun c9 => ?_) (fun c9 => ?_)
            · replace h := ite_t h c9
              refine lv_aload_n hx hb dX4_sooner_59 rfl (lv_at hl 0 rfl) ?_
              refine wd_get hC i4 hW 34 wC_c34 rfl 0 (Nat.le_of_ble_eq_true rfl) f59 rfl rfl dX4_sooner_60 ?_
              refine lv_iload hx hb dX4_sooner_63 (lv_at hl 4 rfl) ?_
              obtain ⟨hi10, h⟩ := ck_of h
              refine wd_aldq hC hW 3 wC_c3 hi10 rfl dX4_sooner_65 ?_
              refine wd_get hC i3 hW (4 + 3 * x4.toNatClampNeg) (wC_L (in_lt hi10)) rfl 1 (Nat.le_of_ble_eq_true rfl) f90 rfl rfl dX4_sooner_66 ?_
              refine lv_aload_n hx hb dX4_sooner_69 rfl (lv_at hl 0 rfl) ?_
              refine wd_get hC i4 hW 34 wC_c34 rfl 0 (Nat.le_of_ble_eq_true rfl) f59 rfl rfl dX4_sooner_70 ?_
              refine lv_iload_n hx hb dX4_sooner_73 rfl (lv_at hl 1 rfl) ?_
              obtain ⟨hi11, h⟩ := ck_of h
              refine wd_aldq hC hW 3 wC_c3 hi11 rfl dX4_sooner_74 ?_
              refine wd_get hC i3 hW (4 + 3 * x1.toNatClampNeg) (wC_L (in_lt hi11)) rfl 1 (Nat.le_of_ble_eq_true rfl) f90 rfl rfl dX4_sooner_75 ?_
              refine lv_icmp_ge (tgt := 85) hx hb dX4_sooner_78 (by decide) (fun c12 => ?_) (fun c12 => ?_)
              · replace h := ite_t h c12
                refine lv_iconst (v := 0) hx hb dX4_sooner_85 (by decide) ?_
                refine lv_istore (lv' := [(5, .int 0), (0, .ref (ad 34)), (1, .int x1), (2, .int x2), (3, .int x3), (4, .int x4)]) hx hb dX4_sooner_86 hl (by decide) rfl (fun ls hl => ?_)
                refine lv_iload hx hb dX4_sooner_88 (lv_at hl 0 rfl) ?_
                refine lv_if_eq (tgt := 96) hx hb dX4_sooner_90 (by decide) (fun c => ?_) (fun c => absurd (by decide) c)
                refine lv_iinc (v := x4 + 1) (lv' := [(4, .int (x4 + 1)), (5, .int 0), (0, .ref (ad 34)), (1, .int x1), (2, .int x2), (3, .int x3)]) hx hb dX4_sooner_96 hl (k := 5) rfl rfl (by decide) rfl (fun ls hl => ?_)
                refine lv_goto (tgt := 5) hx hb dX4_sooner_99 (by decide) ?_
                exact ih x1 x2 x3 (x4 + 1) _ _ _ r h hW (lv_sub hl [2, 3, 4, 5, 0] rfl) kk
              · replace h := ite_f h c12
                refine lv_iconst (v := 1) hx hb dX4_sooner_81 (by decide) ?_
                refine lv_goto (tgt := 86) hx hb dX4_sooner_82 (by decide) ?_
                refine lv_istore (lv' := [(5, .int 1), (0, .ref (ad 34)), (1, .int x1), (2, .int x2), (3, .int x3), (4, .int x4)]) hx hb dX4_sooner_86 hl (by decide) rfl (fun ls hl => ?_)
                refine lv_iload hx hb dX4_sooner_88 (lv_at hl 0 rfl) ?_
                refine lv_if_eq (tgt := 96) hx hb dX4_sooner_90 (by decide) (fun c => absurd c (by decide)) (fun c => ?_)
                refine lv_iinc (v := x3 + 1) (lv' := [(3, .int (x3 + 1)), (5, .int 1), (0, .ref (ad 34)), (1, .int x1), (2, .int x2), (4, .int x4)]) hx hb dX4_sooner_93 hl (k := 4) rfl rfl (by decide) rfl (fun ls hl => ?_)
                refine lv_iinc (v := x4 + 1) (lv' := [(4, .int (x4 + 1)), (3, .int (x3 + 1)), (5, .int 1), (0, .ref (ad 34)), (1, .int x1), (2, .int x2)]) hx hb dX4_sooner_96 hl (k := 5) rfl rfl (by decide) rfl (fun ls hl => ?_)
                refine lv_goto (tgt := 5) hx hb dX4_sooner_99 (by decide) ?_
                exact ih x1 x2 (x3 + 1) (x4 + 1) _ _ _ r h hW (lv_sub hl [3, 4, 5, 1, 0] rfl) kk
            · replace h := ite_f h c9
              refine lv_aload_n hx hb dX4_sooner_40 rfl (lv_at hl 0 rfl) ?_
              refine wd_get hC i4 hW 34 wC_c34 rfl 6 (Nat.le_of_ble_eq_true rfl) f27 rfl rfl dX4_sooner_41 ?_
              refine lv_iload hx hb dX4_sooner_44 (lv_at hl 4 rfl) ?_
              obtain ⟨hi13, h⟩ := ck_of h
              refine wd_iald hC hW 35 wC_c35 hi13 dX4_sooner_46 ?_
              refine lv_iload_n hx hb dX4_sooner_47 rfl (lv_at hl 2 rfl) ?_
              refine lv_icmp_ge (tgt := 55) hx hb dX4_sooner_48 (by decide) (fun c14 => ?_) (fun c14 => ?_)
              · replace h := ite_t h c14
                refine lv_iconst (v := 0) hx hb dX4_sooner_55 (by decide) ?_
                refine lv_goto (tgt := 86) hx hb dX4_sooner_56 (by decide) ?_
                refine lv_istore (lv' := [(5, .int 0), (0, .ref (ad 34)), (1, .int x1), (2, .int x2), (3, .int x3), (4, .int x4)]) hx hb dX4_sooner_86 hl (by decide) rfl (fun ls hl => ?_)
                refine lv_iload hx hb dX4_sooner_88 (lv_at hl 0 rfl) ?_
                refine lv_if_eq (tgt := 96) hx hb dX4_sooner_90 (by decide) (fun c => ?_) (fun c => absurd (by decide) c)
                refine lv_iinc (v := x4 + 1) (lv' := [(4, .int (x4 + 1)), (5, .int 0), (0, .ref (ad 34)), (1, .int x1), (2, .int x2), (3, .int x3)]) hx hb dX4_sooner_96 hl (k := 5) rfl rfl (by decide) rfl (fun ls hl => ?_)
                refine lv_goto (tgt := 5) hx hb dX4_sooner_99 (by decide) ?_
                exact ih x1 x2 x3 (x4 + 1) _ _ _ r h hW (lv_sub hl [2, 3, 4, 5, 0] rfl) kk
              · replace h := ite_f h c14
                refine lv_iconst (v := 1) hx hb dX4_sooner_51 (by decide) ?_
                refine lv_goto (tgt := 86) hx hb dX4_sooner_52 (by decide) ?_
                refine lv_istore (lv' := [(5, .int 1), (0, .ref (ad 34)), (1, .int x1), (2, .int x2), (3, .int x3), (4, .int x4)]) hx hb dX4_sooner_86 hl (by decide) rfl (fun ls hl => ?_)
                refine lv_iload hx hb dX4_sooner_88 (lv_at hl 0 rfl) ?_
                refine lv_if_eq (tgt := 96) hx hb dX4_sooner_90 (by decide) (fun c => absurd c (by decide)) (fun c => ?_)
                refine lv_iinc (v := x3 + 1) (lv' := [(3, .int (x3 + 1)), (5, .int 1), (0, .ref (ad 34)), (1, .int x1), (2, .int x2), (4, .int x4)]) hx hb dX4_sooner_93 hl (k := 4) rfl rfl (by decide) rfl (fun ls hl => ?_)
                refine lv_iinc (v := x4 + 1) (lv' := [(4, .int (x4 + 1)), (3, .int (x3 + 1)), (5, .int 1), (0, .ref (ad 34)), (1, .int x1), (2, .int x2)]) hx hb dX4_sooner_96 hl (k := 5) rfl rfl (by decide) rfl (fun ls hl => ?_)
                refine lv_goto (tgt := 5) hx hb dX4_sooner_99 (by decide) ?_
                exact ih x1 x2 (x3 + 1) (x4 + 1) _ _ _ r h hW (lv_sub hl [3, 4, 5, 1, 0] rfl) kk
  obtain ⟨q1, hq2, h⟩ := bd_of h
  refine hL5 n p0 p1 0 0  _ _ _ q1 hq2 hW (lv_sub hl [2, 3, 4, 1, 0] rfl) (fun H locs ls hW hl => ?_)
  refine lv_iload_n hx hb dX4_sooner_102 rfl (lv_at hl 3 rfl) ?_
  obtain rfl := Option.some.inj h
  exact wd_iret hA hQ hC hr hk hW dX4_sooner_103
def m_X4_next_L2 (ib ab : Nat) : Nat → St → Int32 → Option (Int32)
  | 0, _, _ => none
  | n + 1, S, x1 =>
    if (S.1 (ib + 0)) ≤ x1 then (some (-1)) else ((m_X4_waits ib ab S x1).bind (fun r2 => if r2 = 0 then (m_X4_next_L2 ib ab n S (x1 + 1)) else (ck x1 6 ((m_X4_sooner ib ab n S x1 (S.2.1 (ab + 1) x1.toNatClampNeg)).bind (fun r6 => if r6 = 0 then (some x1) else (m_X4_next_L2 ib ab n S (x1 + 1)))))))
theorem m_X4_next_L2_0 {ib ab : Nat} (S : St) (x1 : Int32) : m_X4_next_L2 ib ab 0 S x1 = none := rfl
theorem m_X4_next_L2_s {ib ab : Nat} {n : Nat} {S : St} {x1 : Int32} : m_X4_next_L2 ib ab (n + 1) S x1 =
    (if (S.1 (ib + 0)) ≤ x1 then (some (-1)) else ((m_X4_waits ib ab S x1).bind (fun r2 => if r2 = 0 then (m_X4_next_L2 ib ab n S (x1 + 1)) else (ck x1 6 ((m_X4_sooner ib ab n S x1 (S.2.1 (ab + 1) x1.toNatClampNeg)).bind (fun r6 => if r6 = 0 then (some x1) else (m_X4_next_L2 ib ab n S (x1 + 1)))))))) := rfl
def m_X4_next (ib ab : Nat) (n : Nat) (S : St) : Option (Int32) :=
  m_X4_next_L2 ib ab n S 0
set_option maxHeartbeats 4000000 in
set_option maxRecDepth 100000 in
theorem c_X4_nextM (l : Launch) (D : va_G) (cy : Nat → ClassId) (ad : Nat → Nat) (X : va_W) (n : Nat) (S : St) (r : (Int32)) (h : m_X4_next 30 25 n S = some r) : CT l yX4_next (wu yX4_next cX4_next 2 (some .int)) 2 D cy [.ref (ad 25)] (wC ad cy S ++ X) (some (.int r)) (wC ad cy S ++ X) := by
  refine CT.mk (cc := cX4_next) (maxL := 2) (ret := (some .int)) (own := RX4) (by decide) rfl rfl (Nat.le_of_ble_eq_true rfl) ?_
  intro p e s m args below meth c ls A Q hA hQ hC hr hk hW hl
  have hx := hC.1
  have hb := hC.2.1
  have hown := hC.2.2.2.1
  have hts := hC.2.2.2.2
  have hl : lv_has ls 2 [(0, .ref (ad 25))] := hl
  have f9 := hts _ (wu_in w_3_14)
  have i4 := (fun w h => wu_in (inc_4 w h) : ∀ w ∈ u_ws RX4 TX4 16, w ∈ (wu yX4_next cX4_next 2 (some .int)))
  have f27 := hts _ (wu_in w_3_19)
  unfold m_X4_next at h
  refine lv_iconst (v := 0) hx hb dX4_next_0 (by decide) ?_
  refine lv_istore_n (lv' := [(1, .int 0), (0, .ref (ad 25))]) hx hb dX4_next_1 rfl hl (by decide) rfl (fun ls hl => ?_)
  have hL2 : ∀ (n : Nat) (x1 : Int32)  (H : Heap) (locs : List Loc) (ls : Array Slot), m_X4_next_L2 30 25 n S x1 = some r → Wd D cy A s (wC ad cy S ++ X) H locs → lv_has ls 2 [(0, .ref (ad 25)), (1, .int x1)] → W p l e (RM 2) s m args below meth c H locs 0 0 Q (F0 m 2 ls []) := by
    intro n
    induction n with
    | zero =>
      intro x1  H locs ls h
      exact absurd (h.symm.trans (m_X4_next_L2_0 ..)) (by simp)
    | succ n ih =>
      intro x1  H locs ls h hW hl
      rw [m_X4_next_L2_s] at h
      refine lv_iload_n hx hb dX4_next_2 rfl (lv_at hl 1 rfl) ?_
      refine lv_aload_n hx hb dX4_next_3 rfl (lv_at hl 0 rfl) ?_
      refine wd_get hC i4 hW 25 wC_c25 rfl 1 (Nat.le_of_ble_eq_true rfl) f9 rfl rfl dX4_next_4 ?_
      refine lv_icmp_ge (tgt := 40) hx hb dX4_next_7 (by decide) (fun c1 => ?_) (fun c1 => ?_)
      · replace h := ite_t h c1
        refine lv_iconst (v := (-1)) hx hb dX4_next_40 (by decide) ?_
        obtain rfl := Option.some.inj h
        exact wd_iret hA hQ hC hr hk hW dX4_next_41
      · replace h := ite_f h c1
        refine lv_aload_n hx hb dX4_next_10 rfl (lv_at hl 0 rfl) ?_
        refine lv_iload_n hx hb dX4_next_11 rfl (lv_at hl 1 rfl) ?_
        obtain ⟨r2, hr3, h⟩ := bd_of h
        refine wd_callV1 (As := [.int x1]) hC hW 25 wC_c25 rfl (c_X4_waitsM l D cy ad X S x1 r2 hr3) (cwV 1 hts (gu_V w_16_23 w_18_7 w_16_21 w_16_22 w_1_23) rfl rfl rfl hdX4_waits ⟨Nat.le_of_ble_eq_true rfl, Nat.le_of_ble_eq_true rfl⟩) rfl hl.1 rfl (Nat.le_of_ble_eq_true rfl) ⟨Nat.zero_le _, Nat.zero_le _⟩ dX4_next_12 (fun H locs hW => ?_)
        refine lv_if_eq (tgt := 34) hx hb dX4_next_15 (by decide) (fun c4 => ?_) (fun c4 => ?_)
        · replace h := ite_t h c4
          refine lv_iinc (v := x1 + 1) (lv' := [(1, .int (x1 + 1)), (0, .ref (ad 25))]) hx hb dX4_next_34 hl (k := 1) rfl rfl (by decide) rfl (fun ls hl => ?_)
          refine lv_goto (tgt := 2) hx hb dX4_next_37 (by decide) ?_
          exact ih (x1 + 1) _ _ _ h hW (lv_sub hl [1, 0] rfl)
        · replace h := ite_f h c4
          refine lv_aload_n hx hb dX4_next_18 rfl (lv_at hl 0 rfl) ?_
          refine lv_iload_n hx hb dX4_next_19 rfl (lv_at hl 1 rfl) ?_
          refine lv_aload_n hx hb dX4_next_20 rfl (lv_at hl 0 rfl) ?_
          refine wd_get hC i4 hW 25 wC_c25 rfl 6 (Nat.le_of_ble_eq_true rfl) f27 rfl rfl dX4_next_21 ?_
          refine lv_iload_n hx hb dX4_next_24 rfl (lv_at hl 1 rfl) ?_
          obtain ⟨hi5, h⟩ := ck_of h
          refine wd_iald hC hW 26 wC_c26 hi5 dX4_next_25 ?_
          obtain ⟨r6, hr7, h⟩ := bd_of h
          refine wd_callV1 (As := [.int x1, .int (S.2.1 26 x1.toNatClampNeg)]) hC hW 25 wC_c25 rfl (c_X4_soonerM l D cy ad X n S x1 (S.2.1 26 x1.toNatClampNeg) r6 hr7) (cwV 2 hts (gu_V w_18_11 w_18_8 w_18_9 w_18_10 w_1_23) rfl rfl rfl hdX4_sooner ⟨Nat.le_of_ble_eq_true rfl, Nat.le_of_ble_eq_true rfl⟩) rfl hl.1 rfl (Nat.le_of_ble_eq_true rfl) ⟨Nat.zero_le _, Nat.zero_le _⟩ dX4_next_26 (fun H locs hW => ?_)
          refine lv_if_ne (tgt := 34) hx hb dX4_next_29 (by decide) (fun c8 => ?_) (fun c8 => ?_)
          · replace h := ite_f h c8
            refine lv_iinc (v := x1 + 1) (lv' := [(1, .int (x1 + 1)), (0, .ref (ad 25))]) hx hb dX4_next_34 hl (k := 1) rfl rfl (by decide) rfl (fun ls hl => ?_)
            refine lv_goto (tgt := 2) hx hb dX4_next_37 (by decide) ?_
            exact ih (x1 + 1) _ _ _ h hW (lv_sub hl [1, 0] rfl)
          · replace h := ite_t h c8
            refine lv_iload_n hx hb dX4_next_32 rfl (lv_at hl 1 rfl) ?_
            obtain rfl := Option.some.inj h
            exact wd_iret hA hQ hC hr hk hW dX4_next_33
  exact hL2 n 0  _ _ _ h hW (lv_sub hl [1, 0] rfl)
set_option maxHeartbeats 4000000 in
set_option maxRecDepth 100000 in
theorem c_X4_nextD (l : Launch) (D : va_G) (cy : Nat → ClassId) (ad : Nat → Nat) (X : va_W) (n : Nat) (S : St) (r : (Int32)) (h : m_X4_next 40 34 n S = some r) : CT l yX4_next (wu yX4_next cX4_next 2 (some .int)) 2 D cy [.ref (ad 34)] (wC ad cy S ++ X) (some (.int r)) (wC ad cy S ++ X) := by
  refine CT.mk (cc := cX4_next) (maxL := 2) (ret := (some .int)) (own := RX4) (by decide) rfl rfl (Nat.le_of_ble_eq_true rfl) ?_
  intro p e s m args below meth c ls A Q hA hQ hC hr hk hW hl
  have hx := hC.1
  have hb := hC.2.1
  have hown := hC.2.2.2.1
  have hts := hC.2.2.2.2
  have hl : lv_has ls 2 [(0, .ref (ad 34))] := hl
  have f9 := hts _ (wu_in w_3_14)
  have i4 := (fun w h => wu_in (inc_4 w h) : ∀ w ∈ u_ws RX4 TX4 16, w ∈ (wu yX4_next cX4_next 2 (some .int)))
  have f27 := hts _ (wu_in w_3_19)
  unfold m_X4_next at h
  refine lv_iconst (v := 0) hx hb dX4_next_0 (by decide) ?_
  refine lv_istore_n (lv' := [(1, .int 0), (0, .ref (ad 34))]) hx hb dX4_next_1 rfl hl (by decide) rfl (fun ls hl => ?_)
  have hL2 : ∀ (n : Nat) (x1 : Int32)  (H : Heap) (locs : List Loc) (ls : Array Slot), m_X4_next_L2 40 34 n S x1 = some r → Wd D cy A s (wC ad cy S ++ X) H locs → lv_has ls 2 [(0, .ref (ad 34)), (1, .int x1)] → W p l e (RM 2) s m args below meth c H locs 0 0 Q (F0 m 2 ls []) := by
    intro n
    induction n with
    | zero =>
      intro x1  H locs ls h
      exact absurd (h.symm.trans (m_X4_next_L2_0 ..)) (by simp)
    | succ n ih =>
      intro x1  H locs ls h hW hl
      rw [m_X4_next_L2_s] at h
      refine lv_iload_n hx hb dX4_next_2 rfl (lv_at hl 1 rfl) ?_
      refine lv_aload_n hx hb dX4_next_3 rfl (lv_at hl 0 rfl) ?_
      refine wd_get hC i4 hW 34 wC_c34 rfl 1 (Nat.le_of_ble_eq_true rfl) f9 rfl rfl dX4_next_4 ?_
      refine lv_icmp_ge (tgt := 40) hx hb dX4_next_7 (by decide) (fun c1 => ?_) (fun c1 => ?_)
      · replace h := ite_t h c1
        refine lv_iconst (v := (-1)) hx hb dX4_next_40 (by decide) ?_
        obtain rfl := Option.some.inj h
        exact wd_iret hA hQ hC hr hk hW dX4_next_41
      · replace h := ite_f h c1
        refine lv_aload_n hx hb dX4_next_10 rfl (lv_at hl 0 rfl) ?_
        refine lv_iload_n hx hb dX4_next_11 rfl (lv_at hl 1 rfl) ?_
        obtain ⟨r2, hr3, h⟩ := bd_of h
        refine wd_callV1 (As := [.int x1]) hC hW 34 wC_c34 rfl (c_X4_waitsD l D cy ad X S x1 r2 hr3) (cwV 1 hts (gu_V w_16_23 w_18_7 w_16_21 w_16_22 w_1_23) rfl rfl rfl hdX4_waits ⟨Nat.le_of_ble_eq_true rfl, Nat.le_of_ble_eq_true rfl⟩) rfl hl.1 rfl (Nat.le_of_ble_eq_true rfl) ⟨Nat.zero_le _, Nat.zero_le _⟩ dX4_next_12 (fun H locs hW => ?_)
        refine lv_if_eq (tgt := 34) hx hb dX4_next_15 (by decide) (fun c4 => ?_) (fun c4 => ?_)
        · replace h := ite_t h c4
          refine lv_iinc (v := x1 + 1) (lv' := [(1, .int (x1 + 1)), (0, .ref (ad 34))]) hx hb dX4_next_34 hl (k := 1) rfl rfl (by decide) rfl (fun ls hl => ?_)
          refine lv_goto (tgt := 2) hx hb dX4_next_37 (by decide) ?_
          exact ih (x1 + 1) _ _ _ h hW (lv_sub hl [1, 0] rfl)
        · replace h := ite_f h c4
          refine lv_aload_n hx hb dX4_next_18 rfl (lv_at hl 0 rfl) ?_
          refine lv_iload_n hx hb dX4_next_19 rfl (lv_at hl 1 rfl) ?_
          refine lv_aload_n hx hb dX4_next_20 rfl (lv_at hl 0 rfl) ?_
          refine wd_get hC i4 hW 34 wC_c34 rfl 6 (Nat.le_of_ble_eq_true rfl) f27 rfl rfl dX4_next_21 ?_
          refine lv_iload_n hx hb dX4_next_24 rfl (lv_at hl 1 rfl) ?_
          obtain ⟨hi5, h⟩ := ck_of h
          refine wd_iald hC hW 35 wC_c35 hi5 dX4_next_25 ?_
          obtain ⟨r6, hr7, h⟩ := bd_of h
          refine wd_callV1 (As := [.int x1, .int (S.2.1 35 x1.toNatClampNeg)]) hC hW 34 wC_c34 rfl (c_X4_soonerD l D cy ad X n S x1 (S.2.1 35 x1.toNatClampNeg) r6 hr7) (cwV 2 hts (gu_V w_18_11 w_18_8 w_18_9 w_18_10 w_1_23) rfl rfl rfl hdX4_sooner ⟨Nat.le_of_ble_eq_true rfl, Nat.le_of_ble_eq_true rfl⟩) rfl hl.1 rfl (Nat.le_of_ble_eq_true rfl) ⟨Nat.zero_le _, Nat.zero_le _⟩ dX4_next_26 (fun H locs hW => ?_)
          refine lv_if_ne (tgt := 34) hx hb dX4_next_29 (by decide) (fun c8 => ?_) (fun c8 => ?_)
          · replace h := ite_f h c8
            refine lv_iinc (v := x1 + 1) (lv' := [(1, .int (x1 + 1)), (0, .ref (ad 34))]) hx hb dX4_next_34 hl (k := 1) rfl rfl (by decide) rfl (fun ls hl => ?_)
            refine lv_goto (tgt := 2) hx hb dX4_next_37 (by decide) ?_
            exact ih (x1 + 1) _ _ _ h hW (lv_sub hl [1, 0] rfl)
          · replace h := ite_t h c8
            refine lv_iload_n hx hb dX4_next_32 rfl (lv_at hl 1 rfl) ?_
            obtain rfl := Option.some.inj h
            exact wd_iret hA hQ hC hr hk hW dX4_next_33
  exact hL2 n 0  _ _ _ h hW (lv_sub hl [1, 0] rfl)
def m_X4_leastOf (ib ab : Nat) (S : St) (p0 : Int32) : Option (Int32) :=
  ck p0 6 (if (S.2.1 (ab + 1) p0.toNatClampNeg) = 0 then (some 0) else (ck p0 6 (if (S.2.1 (ab + 2) p0.toNatClampNeg) = 0 then (ck p0 6 (some (mx (S.2.1 (ab + 7) p0.toNatClampNeg) (S.1 (ib + 4))))) else (ck p0 6 (some (S.2.1 (ab + 7) p0.toNatClampNeg))))))
set_option maxHeartbeats 4000000 in
set_option maxRecDepth 100000 in
theorem c_X4_leastOfM (l : Launch) (D : va_G) (cy : Nat → ClassId) (ad : Nat → Nat) (X : va_W) (S : St) (p0 : Int32) (r : (Int32)) (h : m_X4_leastOf 30 25 S p0 = some r) : CT l yX4_leastOf (wu yX4_leastOf cX4_leastOf 2 (some .int)) 1 D cy [.ref (ad 25), .int p0] (wC ad cy S ++ X) (some (.int r)) (wC ad cy S ++ X) := by
  refine CT.mk (cc := cX4_leastOf) (maxL := 2) (ret := (some .int)) (own := RX4) (by decide) rfl rfl (Nat.le_of_ble_eq_true rfl) ?_
  intro p e s m args below meth c ls A Q hA hQ hC hr hk hW hl
  have hx := hC.1
  have hb := hC.2.1
  have hown := hC.2.2.2.1
  have hts := hC.2.2.2.2
  have hl : lv_has ls 2 [(0, .ref (ad 25)), (1, .int p0)] := hl
  have f27 := hts _ (wu_in w_3_19)
  have i4 := (fun w h => wu_in (inc_4 w h) : ∀ w ∈ u_ws RX4 TX4 16, w ∈ (wu yX4_leastOf cX4_leastOf 2 (some .int)))
  have f31 := hts _ (wu_in w_3_21)
  have f47 := hts _ (wu_in w_4_2)
  have f24 := hts _ (wu_in w_3_18)
  have ml93 := hts _ (wu_in w_16_19)
  have msmax := hts _ (wu_in w_15_13)
  have mi := hts _ (wu_in w_15_14)
  have mcmax := hts _ (wu_in w_15_15)
  unfold m_X4_leastOf at h
  refine lv_aload_n hx hb dX4_leastOf_0 rfl (lv_at hl 0 rfl) ?_
  refine wd_get hC i4 hW 25 wC_c25 rfl 6 (Nat.le_of_ble_eq_true rfl) f27 rfl rfl dX4_leastOf_1 ?_
  refine lv_iload_n hx hb dX4_leastOf_4 rfl (lv_at hl 1 rfl) ?_
  obtain ⟨hi1, h⟩ := ck_of h
  refine wd_iald hC hW 26 wC_c26 hi1 dX4_leastOf_5 ?_
  refine lv_if_ne (tgt := 11) hx hb dX4_leastOf_6 (by decide) (fun c2 => ?_) (fun c2 => ?_)
  · replace h := ite_f h c2
    refine lv_aload_n hx hb dX4_leastOf_11 rfl (lv_at hl 0 rfl) ?_
    refine wd_get hC i4 hW 25 wC_c25 rfl 7 (Nat.le_of_ble_eq_true rfl) f31 rfl rfl dX4_leastOf_12 ?_
    refine lv_iload_n hx hb dX4_leastOf_15 rfl (lv_at hl 1 rfl) ?_
    obtain ⟨hi3, h⟩ := ck_of h
    refine wd_zald hC hW 27 wC_c27 hi3 dX4_leastOf_16 ?_
    refine lv_if_eq (tgt := 29) hx hb dX4_leastOf_17 (by decide) (fun c4 => ?_) (fun c4 => ?_)
    · replace h := ite_t h c4
      refine lv_aload_n hx hb dX4_leastOf_29 rfl (lv_at hl 0 rfl) ?_
      refine wd_get hC i4 hW 25 wC_c25 rfl 12 (Nat.le_of_ble_eq_true rfl) f47 rfl rfl dX4_leastOf_30 ?_
      refine lv_iload_n hx hb dX4_leastOf_33 rfl (lv_at hl 1 rfl) ?_
      obtain ⟨hi5, h⟩ := ck_of h
      refine wd_iald hC hW 32 wC_c32 hi5 dX4_leastOf_34 ?_
      refine lv_aload_n hx hb dX4_leastOf_35 rfl (lv_at hl 0 rfl) ?_
      refine wd_get hC i4 hW 25 wC_c25 rfl 5 (Nat.le_of_ble_eq_true rfl) f24 rfl rfl dX4_leastOf_36 ?_
      refine wd_max hC hl.1 ml93 msmax mi mcmax (Nat.le_of_ble_eq_true rfl) (Nat.le_of_ble_eq_true rfl) (Nat.zero_le _) (Nat.zero_le _) dX4_leastOf_39 ?_
      obtain rfl := Option.some.inj h
      exact wd_iret hA hQ hC hr hk hW dX4_leastOf_42
    · replace h := ite_f h c4
      refine lv_aload_n hx hb dX4_leastOf_20 rfl (lv_at hl 0 rfl) ?_
      refine wd_get hC i4 hW 25 wC_c25 rfl 12 (Nat.le_of_ble_eq_true rfl) f47 rfl rfl dX4_leastOf_21 ?_
      refine lv_iload_n hx hb dX4_leastOf_24 rfl (lv_at hl 1 rfl) ?_
      obtain ⟨hi6, h⟩ := ck_of h
      refine wd_iald hC hW 32 wC_c32 hi6 dX4_leastOf_25 ?_
      refine lv_goto (tgt := 42) hx hb dX4_leastOf_26 (by decide) ?_
      obtain rfl := Option.some.inj h
      exact wd_iret hA hQ hC hr hk hW dX4_leastOf_42
  · replace h := ite_t h c2
    refine lv_iconst (v := 0) hx hb dX4_leastOf_9 (by decide) ?_
    obtain rfl := Option.some.inj h
    exact wd_iret hA hQ hC hr hk hW dX4_leastOf_10
set_option maxHeartbeats 4000000 in
set_option maxRecDepth 100000 in
theorem c_X4_leastOfD (l : Launch) (D : va_G) (cy : Nat → ClassId) (ad : Nat → Nat) (X : va_W) (S : St) (p0 : Int32) (r : (Int32)) (h : m_X4_leastOf 40 34 S p0 = some r) : CT l yX4_leastOf (wu yX4_leastOf cX4_leastOf 2 (some .int)) 1 D cy [.ref (ad 34), .int p0] (wC ad cy S ++ X) (some (.int r)) (wC ad cy S ++ X) := by
  refine CT.mk (cc := cX4_leastOf) (maxL := 2) (ret := (some .int)) (own := RX4) (by decide) rfl rfl (Nat.le_of_ble_eq_true rfl) ?_
  intro p e s m args below meth c ls A Q hA hQ hC hr hk hW hl
  have hx := hC.1
  have hb := hC.2.1
  have hown := hC.2.2.2.1
  have hts := hC.2.2.2.2
  have hl : lv_has ls 2 [(0, .ref (ad 34)), (1, .int p0)] := hl
  have f27 := hts _ (wu_in w_3_19)
  have i4 := (fun w h => wu_in (inc_4 w h) : ∀ w ∈ u_ws RX4 TX4 16, w ∈ (wu yX4_leastOf cX4_leastOf 2 (some .int)))
  have f31 := hts _ (wu_in w_3_21)
  have f47 := hts _ (wu_in w_4_2)
  have f24 := hts _ (wu_in w_3_18)
  have ml93 := hts _ (wu_in w_16_19)
  have msmax := hts _ (wu_in w_15_13)
  have mi := hts _ (wu_in w_15_14)
  have mcmax := hts _ (wu_in w_15_15)
  unfold m_X4_leastOf at h
  refine lv_aload_n hx hb dX4_leastOf_0 rfl (lv_at hl 0 rfl) ?_
  refine wd_get hC i4 hW 34 wC_c34 rfl 6 (Nat.le_of_ble_eq_true rfl) f27 rfl rfl dX4_leastOf_1 ?_
  refine lv_iload_n hx hb dX4_leastOf_4 rfl (lv_at hl 1 rfl) ?_
  obtain ⟨hi1, h⟩ := ck_of h
  refine wd_iald hC hW 35 wC_c35 hi1 dX4_leastOf_5 ?_
  refine lv_if_ne (tgt := 11) hx hb dX4_leastOf_6 (by decide) (fun c2 => ?_) (fun c2 => ?_)
  · replace h := ite_f h c2
    refine lv_aload_n hx hb dX4_leastOf_11 rfl (lv_at hl 0 rfl) ?_
    refine wd_get hC i4 hW 34 wC_c34 rfl 7 (Nat.le_of_ble_eq_true rfl) f31 rfl rfl dX4_leastOf_12 ?_
    refine lv_iload_n hx hb dX4_leastOf_15 rfl (lv_at hl 1 rfl) ?_
    obtain ⟨hi3, h⟩ := ck_of h
    refine wd_zald hC hW 36 wC_c36 hi3 dX4_leastOf_16 ?_
    refine lv_if_eq (tgt := 29) hx hb dX4_leastOf_17 (by decide) (fun c4 => ?_) (fun c4 => ?_)
    · replace h := ite_t h c4
      refine lv_aload_n hx hb dX4_leastOf_29 rfl (lv_at hl 0 rfl) ?_
      refine wd_get hC i4 hW 34 wC_c34 rfl 12 (Nat.le_of_ble_eq_true rfl) f47 rfl rfl dX4_leastOf_30 ?_
      refine lv_iload_n hx hb dX4_leastOf_33 rfl (lv_at hl 1 rfl) ?_
      obtain ⟨hi5, h⟩ := ck_of h
      refine wd_iald hC hW 41 wC_c41 hi5 dX4_leastOf_34 ?_
      refine lv_aload_n hx hb dX4_leastOf_35 rfl (lv_at hl 0 rfl) ?_
      refine wd_get hC i4 hW 34 wC_c34 rfl 5 (Nat.le_of_ble_eq_true rfl) f24 rfl rfl dX4_leastOf_36 ?_
      refine wd_max hC hl.1 ml93 msmax mi mcmax (Nat.le_of_ble_eq_true rfl) (Nat.le_of_ble_eq_true rfl) (Nat.zero_le _) (Nat.zero_le _) dX4_leastOf_39 ?_
      obtain rfl := Option.some.inj h
      exact wd_iret hA hQ hC hr hk hW dX4_leastOf_42
    · replace h := ite_f h c4
      refine lv_aload_n hx hb dX4_leastOf_20 rfl (lv_at hl 0 rfl) ?_
      refine wd_get hC i4 hW 34 wC_c34 rfl 12 (Nat.le_of_ble_eq_true rfl) f47 rfl rfl dX4_leastOf_21 ?_
      refine lv_iload_n hx hb dX4_leastOf_24 rfl (lv_at hl 1 rfl) ?_
      obtain ⟨hi6, h⟩ := ck_of h
      refine wd_iald hC hW 41 wC_c41 hi6 dX4_leastOf_25 ?_
      refine lv_goto (tgt := 42) hx hb dX4_leastOf_26 (by decide) ?_
      obtain rfl := Option.some.inj h
      exact wd_iret hA hQ hC hr hk hW dX4_leastOf_42
  · replace h := ite_t h c2
    refine lv_iconst (v := 0) hx hb dX4_leastOf_9 (by decide) ?_
    obtain rfl := Option.some.inj h
    exact wd_iret hA hQ hC hr hk hW dX4_leastOf_10
def m_X4_oddsNow (ib ab : Nat) (S : St) (p0 : Int32) : Option (Int32) :=
  ck p0 7 (ck p0 6 (ck p0 6 ((m_X3_oddsOf S p0.toNatClampNeg (S.1 (ib + 2)) (S.2.1 (ab + 1) p0.toNatClampNeg) ((S.2.1 (ab + 6) p0.toNatClampNeg) * (S.1 (ib + 1)))).bind (fun r4 => some r4))))
set_option maxHeartbeats 4000000 in
set_option maxRecDepth 100000 in
theorem c_X4_oddsNowM (l : Launch) (D : va_G) (cy : Nat → ClassId) (ad : Nat → Nat) (X : va_W) (S : St) (p0 : Int32) (r : (Int32)) (h : m_X4_oddsNow 30 25 S p0 = some r) : CT l yX4_oddsNow (wu yX4_oddsNow cX4_oddsNow 2 (some .int)) 2 D cy [.ref (ad 25), .int p0] (wC ad cy S ++ X) (some (.int r)) (wC ad cy S ++ X) := by
  refine CT.mk (cc := cX4_oddsNow) (maxL := 2) (ret := (some .int)) (own := RX4) (by decide) rfl rfl (Nat.le_of_ble_eq_true rfl) ?_
  intro p e s m args below meth c ls A Q hA hQ hC hr hk hW hl
  have hx := hC.1
  have hb := hC.2.1
  have hown := hC.2.2.2.1
  have hts := hC.2.2.2.2
  have hl : lv_has ls 2 [(0, .ref (ad 25)), (1, .int p0)] := hl
  have f59 := hts _ (wu_in w_4_6)
  have i4 := (fun w h => wu_in (inc_4 w h) : ∀ w ∈ u_ws RX4 TX4 16, w ∈ (wu yX4_oddsNow cX4_oddsNow 2 (some .int)))
  have f18 := hts _ (wu_in w_3_16)
  have f27 := hts _ (wu_in w_3_19)
  have f44 := hts _ (wu_in w_4_1)
  have f15 := hts _ (wu_in w_3_15)
  unfold m_X4_oddsNow at h
  refine lv_aload_n hx hb dX4_oddsNow_0 rfl (lv_at hl 0 rfl) ?_
  refine wd_get hC i4 hW 25 wC_c25 rfl 0 (Nat.le_of_ble_eq_true rfl) f59 rfl rfl dX4_oddsNow_1 ?_
  refine lv_iload_n hx hb dX4_oddsNow_4 rfl (lv_at hl 1 rfl) ?_
  obtain ⟨hi1, h⟩ := ck_of h
  refine wd_aldq hC hW 3 wC_c3 hi1 rfl dX4_oddsNow_5 ?_
  refine lv_aload_n hx hb dX4_oddsNow_6 rfl (lv_at hl 0 rfl) ?_
  refine wd_get hC i4 hW 25 wC_c25 rfl 3 (Nat.le_of_ble_eq_true rfl) f18 rfl rfl dX4_oddsNow_7 ?_
  refine lv_aload_n hx hb dX4_oddsNow_10 rfl (lv_at hl 0 rfl) ?_
  refine wd_get hC i4 hW 25 wC_c25 rfl 6 (Nat.le_of_ble_eq_true rfl) f27 rfl rfl dX4_oddsNow_11 ?_
  refine lv_iload_n hx hb dX4_oddsNow_14 rfl (lv_at hl 1 rfl) ?_
  obtain ⟨hi2, h⟩ := ck_of h
  refine wd_iald hC hW 26 wC_c26 hi2 dX4_oddsNow_15 ?_
  refine lv_aload_n hx hb dX4_oddsNow_16 rfl (lv_at hl 0 rfl) ?_
  refine wd_get hC i4 hW 25 wC_c25 rfl 11 (Nat.le_of_ble_eq_true rfl) f44 rfl rfl dX4_oddsNow_17 ?_
  refine lv_iload_n hx hb dX4_oddsNow_20 rfl (lv_at hl 1 rfl) ?_
  obtain ⟨hi3, h⟩ := ck_of h
  refine wd_iald hC hW 31 wC_c31 hi3 dX4_oddsNow_21 ?_
  refine lv_aload_n hx hb dX4_oddsNow_22 rfl (lv_at hl 0 rfl) ?_
  refine wd_get hC i4 hW 25 wC_c25 rfl 2 (Nat.le_of_ble_eq_true rfl) f15 rfl rfl dX4_oddsNow_23 ?_
  refine lv_imul hx hb dX4_oddsNow_26 ?_
  obtain ⟨r4, hr5, h⟩ := bd_of h
  refine wd_callV1 (As := [.int (S.1 32), .int (S.2.1 26 p0.toNatClampNeg), .int ((S.2.1 31 p0.toNatClampNeg) * (S.1 31))]) hC hW (4 + 3 * p0.toNatClampNeg) (wC_L (in_lt hi1)) rfl (c_X3_oddsOf l D cy ad X S p0.toNatClampNeg (S.1 32) (S.2.1 26 p0.toNatClampNeg) ((S.2.1 31 p0.toNatClampNeg) * (S.1 31)) r4 hr5 (in_lt hi1)) (cwV 3 hts (gu_V w_15_11 w_18_17 w_15_9 w_15_10 w_1_20) rfl rfl rfl hdX3_oddsOf ⟨Nat.le_of_ble_eq_true rfl, Nat.le_of_ble_eq_true rfl⟩) rfl hl.1 rfl (Nat.le_of_ble_eq_true rfl) ⟨Nat.zero_le _, Nat.zero_le _⟩ dX4_oddsNow_27 (fun H locs hW => ?_)
  obtain rfl := Option.some.inj h
  exact wd_iret hA hQ hC hr hk hW dX4_oddsNow_30
set_option maxHeartbeats 4000000 in
set_option maxRecDepth 100000 in
theorem c_X4_oddsNowD (l : Launch) (D : va_G) (cy : Nat → ClassId) (ad : Nat → Nat) (X : va_W) (S : St) (p0 : Int32) (r : (Int32)) (h : m_X4_oddsNow 40 34 S p0 = some r) : CT l yX4_oddsNow (wu yX4_oddsNow cX4_oddsNow 2 (some .int)) 2 D cy [.ref (ad 34), .int p0] (wC ad cy S ++ X) (some (.int r)) (wC ad cy S ++ X) := by
  refine CT.mk (cc := cX4_oddsNow) (maxL := 2) (ret := (some .int)) (own := RX4) (by decide) rfl rfl (Nat.le_of_ble_eq_true rfl) ?_
  intro p e s m args below meth c ls A Q hA hQ hC hr hk hW hl
  have hx := hC.1
  have hb := hC.2.1
  have hown := hC.2.2.2.1
  have hts := hC.2.2.2.2
  have hl : lv_has ls 2 [(0, .ref (ad 34)), (1, .int p0)] := hl
  have f59 := hts _ (wu_in w_4_6)
  have i4 := (fun w h => wu_in (inc_4 w h) : ∀ w ∈ u_ws RX4 TX4 16, w ∈ (wu yX4_oddsNow cX4_oddsNow 2 (some .int)))
  have f18 := hts _ (wu_in w_3_16)
  have f27 := hts _ (wu_in w_3_19)
  have f44 := hts _ (wu_in w_4_1)
  have f15 := hts _ (wu_in w_3_15)
  unfold m_X4_oddsNow at h
  refine lv_aload_n hx hb dX4_oddsNow_0 rfl (lv_at hl 0 rfl) ?_
  refine wd_get hC i4 hW 34 wC_c34 rfl 0 (Nat.le_of_ble_eq_true rfl) f59 rfl rfl dX4_oddsNow_1 ?_
  refine lv_iload_n hx hb dX4_oddsNow_4 rfl (lv_at hl 1 rfl) ?_
  obtain ⟨hi1, h⟩ := ck_of h
  refine wd_aldq hC hW 3 wC_c3 hi1 rfl dX4_oddsNow_5 ?_
  refine lv_aload_n hx hb dX4_oddsNow_6 rfl (lv_at hl 0 rfl) ?_
  refine wd_get hC i4 hW 34 wC_c34 rfl 3 (Nat.le_of_ble_eq_true rfl) f18 rfl rfl dX4_oddsNow_7 ?_
  refine lv_aload_n hx hb dX4_oddsNow_10 rfl (lv_at hl 0 rfl) ?_
  refine wd_get hC i4 hW 34 wC_c34 rfl 6 (Nat.le_of_ble_eq_true rfl) f27 rfl rfl dX4_oddsNow_11 ?_
  refine lv_iload_n hx hb dX4_oddsNow_14 rfl (lv_at hl 1 rfl) ?_
  obtain ⟨hi2, h⟩ := ck_of h
  refine wd_iald hC hW 35 wC_c35 hi2 dX4_oddsNow_15 ?_
  refine lv_aload_n hx hb dX4_oddsNow_16 rfl (lv_at hl 0 rfl) ?_
  refine wd_get hC i4 hW 34 wC_c34 rfl 11 (Nat.le_of_ble_eq_true rfl) f44 rfl rfl dX4_oddsNow_17 ?_
  refine lv_iload_n hx hb dX4_oddsNow_20 rfl (lv_at hl 1 rfl) ?_
  obtain ⟨hi3, h⟩ := ck_of h
  refine wd_iald hC hW 40 wC_c40 hi3 dX4_oddsNow_21 ?_
  refine lv_aload_n hx hb dX4_oddsNow_22 rfl (lv_at hl 0 rfl) ?_
  refine wd_get hC i4 hW 34 wC_c34 rfl 2 (Nat.le_of_ble_eq_true rfl) f15 rfl rfl dX4_oddsNow_23 ?_
  refine lv_imul hx hb dX4_oddsNow_26 ?_
  obtain ⟨r4, hr5, h⟩ := bd_of h
  refine wd_callV1 (As := [.int (S.1 42), .int (S.2.1 35 p0.toNatClampNeg), .int ((S.2.1 40 p0.toNatClampNeg) * (S.1 41))]) hC hW (4 + 3 * p0.toNatClampNeg) (wC_L (in_lt hi1)) rfl (c_X3_oddsOf l D cy ad X S p0.toNatClampNeg (S.1 42) (S.2.1 35 p0.toNatClampNeg) ((S.2.1 40 p0.toNatClampNeg) * (S.1 41)) r4 hr5 (in_lt hi1)) (cwV 3 hts (gu_V w_15_11 w_18_17 w_15_9 w_15_10 w_1_20) rfl rfl rfl hdX3_oddsOf ⟨Nat.le_of_ble_eq_true rfl, Nat.le_of_ble_eq_true rfl⟩) rfl hl.1 rfl (Nat.le_of_ble_eq_true rfl) ⟨Nat.zero_le _, Nat.zero_le _⟩ dX4_oddsNow_27 (fun H locs hW => ?_)
  obtain rfl := Option.some.inj h
  exact wd_iret hA hQ hC hr hk hW dX4_oddsNow_30
def m_X4_sumOf (ib ab : Nat) (S : St) (p0 : Int32) : Option (Int32) :=
  ck p0 6 (if (S.2.1 (ab + 4) p0.toNatClampNeg) = 0 then (ck (p0 * 3) 18 (ck ((p0 * 3) + 1) 18 (ck ((p0 * 3) + 2) 18 (some (((S.2.1 (ab + 5) (p0 * 3).toNatClampNeg) + (S.2.1 (ab + 5) ((p0 * 3) + 1).toNatClampNeg)) + (S.2.1 (ab + 5) ((p0 * 3) + 2).toNatClampNeg)))))) else (some 0))
set_option maxHeartbeats 4000000 in
set_option maxRecDepth 100000 in
theorem c_X4_sumOfM (l : Launch) (D : va_G) (cy : Nat → ClassId) (ad : Nat → Nat) (X : va_W) (S : St) (p0 : Int32) (r : (Int32)) (h : m_X4_sumOf 30 25 S p0 = some r) : CT l yX4_sumOf (wu yX4_sumOf cX4_sumOf 2 (some .int)) 0 D cy [.ref (ad 25), .int p0] (wC ad cy S ++ X) (some (.int r)) (wC ad cy S ++ X) := by
  refine CT.mk (cc := cX4_sumOf) (maxL := 2) (ret := (some .int)) (own := RX4) (by decide) rfl rfl (Nat.le_of_ble_eq_true rfl) ?_
  intro p e s m args below meth c ls A Q hA hQ hC hr hk hW hl
  have hx := hC.1
  have hb := hC.2.1
  have hown := hC.2.2.2.1
  have hts := hC.2.2.2.2
  have hl : lv_has ls 2 [(0, .ref (ad 25)), (1, .int p0)] := hl
  have f38 := hts _ (wu_in w_3_23)
  have i4 := (fun w h => wu_in (inc_4 w h) : ∀ w ∈ u_ws RX4 TX4 16, w ∈ (wu yX4_sumOf cX4_sumOf 2 (some .int)))
  have f41 := hts _ (wu_in w_4_0)
  unfold m_X4_sumOf at h
  refine lv_aload_n hx hb dX4_sumOf_0 rfl (lv_at hl 0 rfl) ?_
  refine wd_get hC i4 hW 25 wC_c25 rfl 9 (Nat.le_of_ble_eq_true rfl) f38 rfl rfl dX4_sumOf_1 ?_
  refine lv_iload_n hx hb dX4_sumOf_4 rfl (lv_at hl 1 rfl) ?_
  obtain ⟨hi1, h⟩ := ck_of h
  refine wd_zald hC hW 29 wC_c29 hi1 dX4_sumOf_5 ?_
  refine lv_if_eq (tgt := 11) hx hb dX4_sumOf_6 (by decide) (fun c2 => ?_) (fun c2 => ?_)
  · replace h := ite_t h c2
    refine lv_aload_n hx hb dX4_sumOf_11 rfl (lv_at hl 0 rfl) ?_
    refine wd_get hC i4 hW 25 wC_c25 rfl 10 (Nat.le_of_ble_eq_true rfl) f41 rfl rfl dX4_sumOf_12 ?_
    refine lv_iload_n hx hb dX4_sumOf_15 rfl (lv_at hl 1 rfl) ?_
    refine lv_iconst (v := 3) hx hb dX4_sumOf_16 (by decide) ?_
    refine lv_imul hx hb dX4_sumOf_17 ?_
    obtain ⟨hi3, h⟩ := ck_of h
    refine wd_iald hC hW 30 wC_c30 hi3 dX4_sumOf_18 ?_
    refine lv_aload_n hx hb dX4_sumOf_19 rfl (lv_at hl 0 rfl) ?_
    refine wd_get hC i4 hW 25 wC_c25 rfl 10 (Nat.le_of_ble_eq_true rfl) f41 rfl rfl dX4_sumOf_20 ?_
    refine lv_iload_n hx hb dX4_sumOf_23 rfl (lv_at hl 1 rfl) ?_
    refine lv_iconst (v := 3) hx hb dX4_sumOf_24 (by decide) ?_
    refine lv_imul hx hb dX4_sumOf_25 ?_
    refine lv_iconst (v := 1) hx hb dX4_sumOf_26 (by decide) ?_
    refine lv_iadd hx hb dX4_sumOf_27 ?_
    obtain ⟨hi4, h⟩ := ck_of h
    refine wd_iald hC hW 30 wC_c30 hi4 dX4_sumOf_28 ?_
    refine lv_iadd hx hb dX4_sumOf_29 ?_
    refine lv_aload_n hx hb dX4_sumOf_30 rfl (lv_at hl 0 rfl) ?_
    refine wd_get hC i4 hW 25 wC_c25 rfl 10 (Nat.le_of_ble_eq_true rfl) f41 rfl rfl dX4_sumOf_31 ?_
    refine lv_iload_n hx hb dX4_sumOf_34 rfl (lv_at hl 1 rfl) ?_
    refine lv_iconst (v := 3) hx hb dX4_sumOf_35 (by decide) ?_
    refine lv_imul hx hb dX4_sumOf_36 ?_
    refine lv_iconst (v := 2) hx hb dX4_sumOf_37 (by decide) ?_
    refine lv_iadd hx hb dX4_sumOf_38 ?_
    obtain ⟨hi5, h⟩ := ck_of h
    refine wd_iald hC hW 30 wC_c30 hi5 dX4_sumOf_39 ?_
    refine lv_iadd hx hb dX4_sumOf_40 ?_
    obtain rfl := Option.some.inj h
    exact wd_iret hA hQ hC hr hk hW dX4_sumOf_41
  · replace h := ite_f h c2
    refine lv_iconst (v := 0) hx hb dX4_sumOf_9 (by decide) ?_
    obtain rfl := Option.some.inj h
    exact wd_iret hA hQ hC hr hk hW dX4_sumOf_10
set_option maxHeartbeats 4000000 in
set_option maxRecDepth 100000 in
theorem c_X4_sumOfD (l : Launch) (D : va_G) (cy : Nat → ClassId) (ad : Nat → Nat) (X : va_W) (S : St) (p0 : Int32) (r : (Int32)) (h : m_X4_sumOf 40 34 S p0 = some r) : CT l yX4_sumOf (wu yX4_sumOf cX4_sumOf 2 (some .int)) 0 D cy [.ref (ad 34), .int p0] (wC ad cy S ++ X) (some (.int r)) (wC ad cy S ++ X) := by
  refine CT.mk (cc := cX4_sumOf) (maxL := 2) (ret := (some .int)) (own := RX4) (by decide) rfl rfl (Nat.le_of_ble_eq_true rfl) ?_
  intro p e s m args below meth c ls A Q hA hQ hC hr hk hW hl
  have hx := hC.1
  have hb := hC.2.1
  have hown := hC.2.2.2.1
  have hts := hC.2.2.2.2
  have hl : lv_has ls 2 [(0, .ref (ad 34)), (1, .int p0)] := hl
  have f38 := hts _ (wu_in w_3_23)
  have i4 := (fun w h => wu_in (inc_4 w h) : ∀ w ∈ u_ws RX4 TX4 16, w ∈ (wu yX4_sumOf cX4_sumOf 2 (some .int)))
  have f41 := hts _ (wu_in w_4_0)
  unfold m_X4_sumOf at h
  refine lv_aload_n hx hb dX4_sumOf_0 rfl (lv_at hl 0 rfl) ?_
  refine wd_get hC i4 hW 34 wC_c34 rfl 9 (Nat.le_of_ble_eq_true rfl) f38 rfl rfl dX4_sumOf_1 ?_
  refine lv_iload_n hx hb dX4_sumOf_4 rfl (lv_at hl 1 rfl) ?_
  obtain ⟨hi1, h⟩ := ck_of h
  refine wd_zald hC hW 38 wC_c38 hi1 dX4_sumOf_5 ?_
  refine lv_if_eq (tgt := 11) hx hb dX4_sumOf_6 (by decide) (fun c2 => ?_) (fun c2 => ?_)
  · replace h := ite_t h c2
    refine lv_aload_n hx hb dX4_sumOf_11 rfl (lv_at hl 0 rfl) ?_
    refine wd_get hC i4 hW 34 wC_c34 rfl 10 (Nat.le_of_ble_eq_true rfl) f41 rfl rfl dX4_sumOf_12 ?_
    refine lv_iload_n hx hb dX4_sumOf_15 rfl (lv_at hl 1 rfl) ?_
    refine lv_iconst (v := 3) hx hb dX4_sumOf_16 (by decide) ?_
    refine lv_imul hx hb dX4_sumOf_17 ?_
    obtain ⟨hi3, h⟩ := ck_of h
    refine wd_iald hC hW 39 wC_c39 hi3 dX4_sumOf_18 ?_
    refine lv_aload_n hx hb dX4_sumOf_19 rfl (lv_at hl 0 rfl) ?_
    refine wd_get hC i4 hW 34 wC_c34 rfl 10 (Nat.le_of_ble_eq_true rfl) f41 rfl rfl dX4_sumOf_20 ?_
    refine lv_iload_n hx hb dX4_sumOf_23 rfl (lv_at hl 1 rfl) ?_
    refine lv_iconst (v := 3) hx hb dX4_sumOf_24 (by decide) ?_
    refine lv_imul hx hb dX4_sumOf_25 ?_
    refine lv_iconst (v := 1) hx hb dX4_sumOf_26 (by decide) ?_
    refine lv_iadd hx hb dX4_sumOf_27 ?_
    obtain ⟨hi4, h⟩ := ck_of h
    refine wd_iald hC hW 39 wC_c39 hi4 dX4_sumOf_28 ?_
    refine lv_iadd hx hb dX4_sumOf_29 ?_
    refine lv_aload_n hx hb dX4_sumOf_30 rfl (lv_at hl 0 rfl) ?_
    refine wd_get hC i4 hW 34 wC_c34 rfl 10 (Nat.le_of_ble_eq_true rfl) f41 rfl rfl dX4_sumOf_31 ?_
    refine lv_iload_n hx hb dX4_sumOf_34 rfl (lv_at hl 1 rfl) ?_
    refine lv_iconst (v := 3) hx hb dX4_sumOf_35 (by decide) ?_
    refine lv_imul hx hb dX4_sumOf_36 ?_
    refine lv_iconst (v := 2) hx hb dX4_sumOf_37 (by decide) ?_
    refine lv_iadd hx hb dX4_sumOf_38 ?_
    obtain ⟨hi5, h⟩ := ck_of h
    refine wd_iald hC hW 39 wC_c39 hi5 dX4_sumOf_39 ?_
    refine lv_iadd hx hb dX4_sumOf_40 ?_
    obtain rfl := Option.some.inj h
    exact wd_iret hA hQ hC hr hk hW dX4_sumOf_41
  · replace h := ite_f h c2
    refine lv_iconst (v := 0) hx hb dX4_sumOf_9 (by decide) ?_
    obtain rfl := Option.some.inj h
    exact wd_iret hA hQ hC hr hk hW dX4_sumOf_10
def m_X4_isAhead (ib ab : Nat) (S : St) (p0 : Int32) (p1 : Int32) : Option (Int32) :=
  ck p0 6 (ck p1 6 (if (S.2.1 (ab + 4) p0.toNatClampNeg) = (S.2.1 (ab + 4) p1.toNatClampNeg) then ((m_X4_sumOf ib ab S p0).bind (fun r4 => (m_X4_sumOf ib ab S p1).bind (fun r6 => if r4 = r6 then (ck p0 7 (ck p1 7 ((m_X3_leadsLike S p0.toNatClampNeg p1.toNatClampNeg).bind (fun r11 => ckb r11 (some r11))))) else (if r4 ≤ r6 then (some 0) else (some 1))))) else (ck p1 6 (ckb (S.2.1 (ab + 4) p1.toNatClampNeg) (some (S.2.1 (ab + 4) p1.toNatClampNeg))))))
set_option maxHeartbeats 4000000 in
set_option maxRecDepth 100000 in
theorem c_X4_isAheadM (l : Launch) (D : va_G) (cy : Nat → ClassId) (ad : Nat → Nat) (X : va_W) (S : St) (p0 : Int32) (p1 : Int32) (r : (Int32)) (h : m_X4_isAhead 30 25 S p0 p1 = some r) : CT l yX4_isAhead (wu yX4_isAhead cX4_isAhead 5 (some .boolean)) 1 D cy [.ref (ad 25), .int p0, .int p1] (wC ad cy S ++ X) (some (.int r)) (wC ad cy S ++ X) := by
  refine CT.mk (cc := cX4_isAhead) (maxL := 5) (ret := (some .boolean)) (own := RX4) (by decide) rfl rfl (Nat.le_of_ble_eq_true rfl) ?_
  intro p e s m args below meth c ls A Q hA hQ hC hr hk hW hl
  have hx := hC.1
  have hb := hC.2.1
  have hown := hC.2.2.2.1
  have hts := hC.2.2.2.2
  have hl : lv_has ls 5 [(0, .ref (ad 25)), (1, .int p0), (2, .int p1)] := hl
  have f38 := hts _ (wu_in w_3_23)
  have i4 := (fun w h => wu_in (inc_4 w h) : ∀ w ∈ u_ws RX4 TX4 16, w ∈ (wu yX4_isAhead cX4_isAhead 5 (some .boolean)))
  have f59 := hts _ (wu_in w_4_6)
  unfold m_X4_isAhead at h
  refine lv_aload_n hx hb dX4_isAhead_0 rfl (lv_at hl 0 rfl) ?_
  refine wd_get hC i4 hW 25 wC_c25 rfl 9 (Nat.le_of_ble_eq_true rfl) f38 rfl rfl dX4_isAhead_1 ?_
  refine lv_iload_n hx hb dX4_isAhead_4 rfl (lv_at hl 1 rfl) ?_
  obtain ⟨hi1, h⟩ := ck_of h
  refine wd_zald hC hW 29 wC_c29 hi1 dX4_isAhead_5 ?_
  refine lv_aload_n hx hb dX4_isAhead_6 rfl (lv_at hl 0 rfl) ?_
  refine wd_get hC i4 hW 25 wC_c25 rfl 9 (Nat.le_of_ble_eq_true rfl) f38 rfl rfl dX4_isAhead_7 ?_
  refine lv_iload_n hx hb dX4_isAhead_10 rfl (lv_at hl 2 rfl) ?_
  obtain ⟨hi2, h⟩ := ck_of h
  refine wd_zald hC hW 29 wC_c29 hi2 dX4_isAhead_11 ?_
  refine lv_icmp_eq (tgt := 22) hx hb dX4_isAhead_12 (by decide) (fun c3 => ?_) (fun c3 => ?_)
  · replace h := ite_t h c3
    refine lv_aload_n hx hb dX4_isAhead_22 rfl (lv_at hl 0 rfl) ?_
    refine lv_iload_n hx hb dX4_isAhead_23 rfl (lv_at hl 1 rfl) ?_
    obtain ⟨r4, hr5, h⟩ := bd_of h
    refine wd_callV1 (As := [.int p0]) hC hW 25 wC_c25 rfl (c_X4_sumOfM l D cy ad X S p0 r4 hr5) (cwV 1 hts (gu_V w_17_3 w_23_5 w_17_1 w_17_2 w_1_23) rfl rfl rfl hdX4_sumOf ⟨Nat.le_of_ble_eq_true rfl, Nat.le_of_ble_eq_true rfl⟩) rfl hl.1 rfl (Nat.le_of_ble_eq_true rfl) ⟨Nat.zero_le _, Nat.zero_le _⟩ dX4_isAhead_24 (fun H locs hW => ?_)
    refine lv_istore_n (lv' := [(3, .int r4), (0, .ref (ad 25)), (1, .int p0), (2, .int p1)]) hx hb dX4_isAhead_27 rfl hl (by decide) rfl (fun ls hl => ?_)
    refine lv_aload_n hx hb dX4_isAhead_28 rfl (lv_at hl 1 rfl) ?_
    refine lv_iload_n hx hb dX4_isAhead_29 rfl (lv_at hl 3 rfl) ?_
    obtain ⟨r6, hr7, h⟩ := bd_of h
    refine wd_callV1 (As := [.int p1]) hC hW 25 wC_c25 rfl (c_X4_sumOfM l D cy ad X S p1 r6 hr7) (cwV 1 hts (gu_V w_17_3 w_23_5 w_17_1 w_17_2 w_1_23) rfl rfl rfl hdX4_sumOf ⟨Nat.le_of_ble_eq_true rfl, Nat.le_of_ble_eq_true rfl⟩) rfl hl.1 rfl (Nat.le_of_ble_eq_true rfl) ⟨Nat.zero_le _, Nat.zero_le _⟩ dX4_isAhead_30 (fun H locs hW => ?_)
    refine lv_istore (lv' := [(4, .int r6), (3, .int r4), (0, .ref (ad 25)), (1, .int p0), (2, .int p1)]) hx hb dX4_isAhead_33 hl (by decide) rfl (fun ls hl => ?_)
    refine lv_iload_n hx hb dX4_isAhead_35 rfl (lv_at hl 1 rfl) ?_
    refine lv_iload hx hb dX4_isAhead_36 (lv_at hl 0 rfl) ?_
    refine lv_icmp_eq (tgt := 55) hx hb dX4_isAhead_38 (by decide) (fun c8 => ?_) (fun c8 => ?_)
    · replace h := ite_t h c8
      refine lv_aload_n hx hb dX4_isAhead_55 rfl (lv_at hl 2 rfl) ?_
      refine wd_get hC i4 hW 25 wC_c25 rfl 0 (Nat.le_of_ble_eq_true rfl) f59 rfl rfl dX4_isAhead_56 ?_
      refine lv_iload_n hx hb dX4_isAhead_59 rfl (lv_at hl 3 rfl) ?_
      obtain ⟨hi9, h⟩ := ck_of h
      refine wd_aldq hC hW 3 wC_c3 hi9 rfl dX4_isAhead_60 ?_
      refine lv_aload_n hx hb dX4_isAhead_61 rfl (lv_at hl 2 rfl) ?_
      refine wd_get hC i4 hW 25 wC_c25 rfl 0 (Nat.le_of_ble_eq_true rfl) f59 rfl rfl dX4_isAhead_62 ?_
      refine lv_iload_n hx hb dX4_isAhead_65 rfl (lv_at hl 4 rfl) ?_
      obtain ⟨hi10, h⟩ := ck_of h
      refine wd_aldq hC hW 3 wC_c3 hi10 rfl dX4_isAhead_66 ?_
      obtain ⟨r11, hr12, h⟩ := bd_of h
      refine wd_callV1 (As := [.ref (ad (4 + 3 * p1.toNatClampNeg))]) hC hW (4 + 3 * p0.toNatClampNeg) (wC_L (in_lt hi9)) rfl (c_X3_leadsLike l D cy ad X S p0.toNatClampNeg p1.toNatClampNeg r11 hr12 (in_lt hi9) (in_lt hi10)) (cwV 1 hts (gu_V w_23_9 w_23_6 w_23_7 w_23_8 w_1_20) rfl rfl rfl hdX3_leadsLike ⟨Nat.le_of_ble_eq_true rfl, Nat.le_of_ble_eq_true rfl⟩) rfl hl.1 rfl (Nat.le_of_ble_eq_true rfl) ⟨Nat.zero_le _, Nat.zero_le _⟩ dX4_isAhead_67 (fun H locs hW => ?_)
      obtain ⟨hb13, h⟩ := ckb_of h
      obtain rfl := Option.some.inj h
      exact wd_zret hA hQ hC hr hk hW (ckb_nar hb13) dX4_isAhead_70
    · replace h := ite_f h c8
      refine lv_iload_n hx hb dX4_isAhead_41 rfl (lv_at hl 1 rfl) ?_
      refine lv_iload hx hb dX4_isAhead_42 (lv_at hl 0 rfl) ?_
      refine lv_icmp_le (tgt := 51) hx hb dX4_isAhead_44 (by decide) (fun c14 => ?_) (fun c14 => ?_)
      · replace h := ite_t h c14
        refine lv_iconst (v := 0) hx hb dX4_isAhead_51 (by decide) ?_
        refine lv_goto (tgt := 70) hx hb dX4_isAhead_52 (by decide) ?_
        obtain rfl := Option.some.inj h
        exact wd_zret hA hQ hC hr hk hW rfl dX4_isAhead_70
      · replace h := ite_f h c14
        refine lv_iconst (v := 1) hx hb dX4_isAhead_47 (by decide) ?_
        refine lv_goto (tgt := 70) hx hb dX4_isAhead_48 (by decide) ?_
        obtain rfl := Option.some.inj h
        exact wd_zret hA hQ hC hr hk hW rfl dX4_isAhead_70
  · replace h := ite_f h c3
    refine lv_aload_n hx hb dX4_isAhead_15 rfl (lv_at hl 0 rfl) ?_
    refine wd_get hC i4 hW 25 wC_c25 rfl 9 (Nat.le_of_ble_eq_true rfl) f38 rfl rfl dX4_isAhead_16 ?_
    refine lv_iload_n hx hb dX4_isAhead_19 rfl (lv_at hl 2 rfl) ?_
    obtain ⟨hi15, h⟩ := ck_of h
    refine wd_zald hC hW 29 wC_c29 hi15 dX4_isAhead_20 ?_
    obtain ⟨hb16, h⟩ := ckb_of h
    obtain rfl := Option.some.inj h
    exact wd_zret hA hQ hC hr hk hW (ckb_nar hb16) dX4_isAhead_21
set_option maxHeartbeats 4000000 in
set_option maxRecDepth 100000 in
theorem c_X4_isAheadD (l : Launch) (D : va_G) (cy : Nat → ClassId) (ad : Nat → Nat) (X : va_W) (S : St) (p0 : Int32) (p1 : Int32) (r : (Int32)) (h : m_X4_isAhead 40 34 S p0 p1 = some r) : CT l yX4_isAhead (wu yX4_isAhead cX4_isAhead 5 (some .boolean)) 1 D cy [.ref (ad 34), .int p0, .int p1] (wC ad cy S ++ X) (some (.int r)) (wC ad cy S ++ X) := by
  refine CT.mk (cc := cX4_isAhead) (maxL := 5) (ret := (some .boolean)) (own := RX4) (by decide) rfl rfl (Nat.le_of_ble_eq_true rfl) ?_
  intro p e s m args below meth c ls A Q hA hQ hC hr hk hW hl
  have hx := hC.1
  have hb := hC.2.1
  have hown := hC.2.2.2.1
  have hts := hC.2.2.2.2
  have hl : lv_has ls 5 [(0, .ref (ad 34)), (1, .int p0), (2, .int p1)] := hl
  have f38 := hts _ (wu_in w_3_23)
  have i4 := (fun w h => wu_in (inc_4 w h) : ∀ w ∈ u_ws RX4 TX4 16, w ∈ (wu yX4_isAhead cX4_isAhead 5 (some .boolean)))
  have f59 := hts _ (wu_in w_4_6)
  unfold m_X4_isAhead at h
  refine lv_aload_n hx hb dX4_isAhead_0 rfl (lv_at hl 0 rfl) ?_
  refine wd_get hC i4 hW 34 wC_c34 rfl 9 (Nat.le_of_ble_eq_true rfl) f38 rfl rfl dX4_isAhead_1 ?_
  refine lv_iload_n hx hb dX4_isAhead_4 rfl (lv_at hl 1 rfl) ?_
  obtain ⟨hi1, h⟩ := ck_of h
  refine wd_zald hC hW 38 wC_c38 hi1 dX4_isAhead_5 ?_
  refine lv_aload_n hx hb dX4_isAhead_6 rfl (lv_at hl 0 rfl) ?_
  refine wd_get hC i4 hW 34 wC_c34 rfl 9 (Nat.le_of_ble_eq_true rfl) f38 rfl rfl dX4_isAhead_7 ?_
  refine lv_iload_n hx hb dX4_isAhead_10 rfl (lv_at hl 2 rfl) ?_
  obtain ⟨hi2, h⟩ := ck_of h
  refine wd_zald hC hW 38 wC_c38 hi2 dX4_isAhead_11 ?_
  refine lv_icmp_eq (tgt := 22) hx hb dX4_isAhead_12 (by decide) (fun c3 => ?_) (fun c3 => ?_)
  · replace h := ite_t h c3
    refine lv_aload_n hx hb dX4_isAhead_22 rfl (lv_at hl 0 rfl) ?_
    refine lv_iload_n hx hb dX4_isAhead_23 rfl (lv_at hl 1 rfl) ?_
    obtain ⟨r4, hr5, h⟩ := bd_of h
    refine wd_callV1 (As := [.int p0]) hC hW 34 wC_c34 rfl (c_X4_sumOfD l D cy ad X S p0 r4 hr5) (cwV 1 hts (gu_V w_17_3 w_23_5 w_17_1 w_17_2 w_1_23) rfl rfl rfl hdX4_sumOf ⟨Nat.le_of_ble_eq_true rfl, Nat.le_of_ble_eq_true rfl⟩) rfl hl.1 rfl (Nat.le_of_ble_eq_true rfl) ⟨Nat.zero_le _, Nat.zero_le _⟩ dX4_isAhead_24 (fun H locs hW => ?_)
    refine lv_istore_n (lv' := [(3, .int r4), (0, .ref (ad 34)), (1, .int p0), (2, .int p1)]) hx hb dX4_isAhead_27 rfl hl (by decide) rfl (fun ls hl => ?_)
    refine lv_aload_n hx hb dX4_isAhead_28 rfl (lv_at hl 1 rfl) ?_
    refine lv_iload_n hx hb dX4_isAhead_29 rfl (lv_at hl 3 rfl) ?_
    obtain ⟨r6, hr7, h⟩ := bd_of h
    refine wd_callV1 (As := [.int p1]) hC hW 34 wC_c34 rfl (c_X4_sumOfD l D cy ad X S p1 r6 hr7) (cwV 1 hts (gu_V w_17_3 w_23_5 w_17_1 w_17_2 w_1_23) rfl rfl rfl hdX4_sumOf ⟨Nat.le_of_ble_eq_true rfl, Nat.le_of_ble_eq_true rfl⟩) rfl hl.1 rfl (Nat.le_of_ble_eq_true rfl) ⟨Nat.zero_le _, Nat.zero_le _⟩ dX4_isAhead_30 (fun H locs hW => ?_)
    refine lv_istore (lv' := [(4, .int r6), (3, .int r4), (0, .ref (ad 34)), (1, .int p0), (2, .int p1)]) hx hb dX4_isAhead_33 hl (by decide) rfl (fun ls hl => ?_)
    refine lv_iload_n hx hb dX4_isAhead_35 rfl (lv_at hl 1 rfl) ?_
    refine lv_iload hx hb dX4_isAhead_36 (lv_at hl 0 rfl) ?_
    refine lv_icmp_eq (tgt := 55) hx hb dX4_isAhead_38 (by decide) (fun c8 => ?_) (fun c8 => ?_)
    · replace h := ite_t h c8
      refine lv_aload_n hx hb dX4_isAhead_55 rfl (lv_at hl 2 rfl) ?_
      refine wd_get hC i4 hW 34 wC_c34 rfl 0 (Nat.le_of_ble_eq_true rfl) f59 rfl rfl dX4_isAhead_56 ?_
      refine lv_iload_n hx hb dX4_isAhead_59 rfl (lv_at hl 3 rfl) ?_
      obtain ⟨hi9, h⟩ := ck_of h
      refine wd_aldq hC hW 3 wC_c3 hi9 rfl dX4_isAhead_60 ?_
      refine lv_aload_n hx hb dX4_isAhead_61 rfl (lv_at hl 2 rfl) ?_
      refine wd_get hC i4 hW 34 wC_c34 rfl 0 (Nat.le_of_ble_eq_true rfl) f59 rfl rfl dX4_isAhead_62 ?_
      refine lv_iload_n hx hb dX4_isAhead_65 rfl (lv_at hl 4 rfl) ?_
      obtain ⟨hi10, h⟩ := ck_of h
      refine wd_aldq hC hW 3 wC_c3 hi10 rfl dX4_isAhead_66 ?_
      obtain ⟨r11, hr12, h⟩ := bd_of h
      refine wd_callV1 (As := [.ref (ad (4 + 3 * p1.toNatClampNeg))]) hC hW (4 + 3 * p0.toNatClampNeg) (wC_L (in_lt hi9)) rfl (c_X3_leadsLike l D cy ad X S p0.toNatClampNeg p1.toNatClampNeg r11 hr12 (in_lt hi9) (in_lt hi10)) (cwV 1 hts (gu_V w_23_9 w_23_6 w_23_7 w_23_8 w_1_20) rfl rfl rfl hdX3_leadsLike ⟨Nat.le_of_ble_eq_true rfl, Nat.le_of_ble_eq_true rfl⟩) rfl hl.1 rfl (Nat.le_of_ble_eq_true rfl) ⟨Nat.zero_le _, Nat.zero_le _⟩ dX4_isAhead_67 (fun H locs hW => ?_)
      obtain ⟨hb13, h⟩ := ckb_of h
      obtain rfl := Option.some.inj h
      exact wd_zret hA hQ hC hr hk hW (ckb_nar hb13) dX4_isAhead_70
    · replace h := ite_f h c8
      refine lv_iload_n hx hb dX4_isAhead_41 rfl (lv_at hl 1 rfl) ?_
      refine lv_iload hx hb dX4_isAhead_42 (lv_at hl 0 rfl) ?_
      refine lv_icmp_le (tgt := 51) hx hb dX4_isAhead_44 (by decide) (fun c14 => ?_) (fun c14 => ?_)
      · replace h := ite_t h c14
        refine lv_iconst (v := 0) hx hb dX4_isAhead_51 (by decide) ?_
        refine lv_goto (tgt := 70) hx hb dX4_isAhead_52 (by decide) ?_
        obtain rfl := Option.some.inj h
        exact wd_zret hA hQ hC hr hk hW rfl dX4_isAhead_70
      · replace h := ite_f h c14
        refine lv_iconst (v := 1) hx hb dX4_isAhead_47 (by decide) ?_
        refine lv_goto (tgt := 70) hx hb dX4_isAhead_48 (by decide) ?_
        obtain rfl := Option.some.inj h
        exact wd_zret hA hQ hC hr hk hW rfl dX4_isAhead_70
  · replace h := ite_f h c3
    refine lv_aload_n hx hb dX4_isAhead_15 rfl (lv_at hl 0 rfl) ?_
    refine wd_get hC i4 hW 34 wC_c34 rfl 9 (Nat.le_of_ble_eq_true rfl) f38 rfl rfl dX4_isAhead_16 ?_
    refine lv_iload_n hx hb dX4_isAhead_19 rfl (lv_at hl 2 rfl) ?_
    obtain ⟨hi15, h⟩ := ck_of h
    refine wd_zald hC hW 38 wC_c38 hi15 dX4_isAhead_20 ?_
    obtain ⟨hb16, h⟩ := ckb_of h
    obtain rfl := Option.some.inj h
    exact wd_zret hA hQ hC hr hk hW (ckb_nar hb16) dX4_isAhead_21
def m_X4_wouldLead (ib ab : Nat) (S : St) (p0 : Int32) (p1 : Int32) (p2 : Int32) : Option (Int32) :=
  if (S.1 (ib + 2)) < 3 then (ck ((p0 * 3) + (S.1 (ib + 2))) 18 ((m_X4_sumOf ib ab S p0).bind (fun r3 => nm ((r3 - (S.2.1 (ab + 5) ((p0 * 3) + (S.1 (ib + 2))).toNatClampNeg)) + (mx (S.2.1 (ab + 5) ((p0 * 3) + (S.1 (ib + 2))).toNatClampNeg) p1)) (fun v5 => (m_X4_sumOf ib ab S p2).bind (fun r7 => if v5 = r7 then (ck p0 7 (ck p2 7 ((m_X3_leadsLike S p0.toNatClampNeg p2.toNatClampNeg).bind (fun r12 => ckb r12 (some r12))))) else (if v5 ≤ r7 then (some 0) else (some 1))))))) else (some 0)
set_option maxHeartbeats 4000000 in
set_option maxRecDepth 100000 in
theorem c_X4_wouldLeadM (l : Launch) (D : va_G) (cy : Nat → ClassId) (ad : Nat → Nat) (X : va_W) (S : St) (p0 : Int32) (p1 : Int32) (p2 : Int32) (r : (Int32)) (h : m_X4_wouldLead 30 25 S p0 p1 p2 = some r) : CT l yX4_wouldLead (wu yX4_wouldLead cX4_wouldLead 7 (some .boolean)) 1 D cy [.ref (ad 25), .int p0, .int p1, .int p2] (wC ad cy S ++ X) (some (.int r)) (wC ad cy S ++ X) := by
  refine CT.mk (cc := cX4_wouldLead) (maxL := 7) (ret := (some .boolean)) (own := RX4) (by decide) rfl rfl (Nat.le_of_ble_eq_true rfl) ?_
  intro p e s m args below meth c ls A Q hA hQ hC hr hk hW hl
  have hx := hC.1
  have hb := hC.2.1
  have hown := hC.2.2.2.1
  have hts := hC.2.2.2.2
  have hl : lv_has ls 7 [(0, .ref (ad 25)), (1, .int p0), (2, .int p1), (3, .int p2)] := hl
  have f18 := hts _ (wu_in w_3_16)
  have i4 := (fun w h => wu_in (inc_4 w h) : ∀ w ∈ u_ws RX4 TX4 16, w ∈ (wu yX4_wouldLead cX4_wouldLead 7 (some .boolean)))
  have f41 := hts _ (wu_in w_4_0)
  have ml93 := hts _ (wu_in w_16_19)
  have msmax := hts _ (wu_in w_15_13)
  have mi := hts _ (wu_in w_15_14)
  have mcmax := hts _ (wu_in w_15_15)
  have f59 := hts _ (wu_in w_4_6)
  unfold m_X4_wouldLead at h
  refine lv_aload_n hx hb dX4_wouldLead_0 rfl (lv_at hl 0 rfl) ?_
  refine wd_get hC i4 hW 25 wC_c25 rfl 3 (Nat.le_of_ble_eq_true rfl) f18 rfl rfl dX4_wouldLead_1 ?_
  refine lv_iconst (v := 3) hx hb dX4_wouldLead_4 (by decide) ?_
  refine lv_icmp_lt (tgt := 10) hx hb dX4_wouldLead_5 (by decide) (fun c1 => ?_) (fun c1 => ?_)
  · replace h := ite_t h c1
    refine lv_aload_n hx hb dX4_wouldLead_10 rfl (lv_at hl 0 rfl) ?_
    refine wd_get hC i4 hW 25 wC_c25 rfl 10 (Nat.le_of_ble_eq_true rfl) f41 rfl rfl dX4_wouldLead_11 ?_
    refine lv_iload_n hx hb dX4_wouldLead_14 rfl (lv_at hl 1 rfl) ?_
    refine lv_iconst (v := 3) hx hb dX4_wouldLead_15 (by decide) ?_
    refine lv_imul hx hb dX4_wouldLead_16 ?_
    refine lv_aload_n hx hb dX4_wouldLead_17 rfl (lv_at hl 0 rfl) ?_
    refine wd_get hC i4 hW 25 wC_c25 rfl 3 (Nat.le_of_ble_eq_true rfl) f18 rfl rfl dX4_wouldLead_18 ?_
    refine lv_iadd hx hb dX4_wouldLead_21 ?_
    obtain ⟨hi2, h⟩ := ck_of h
    refine wd_iald hC hW 30 wC_c30 hi2 dX4_wouldLead_22 ?_
    refine lv_istore (lv' := [(4, .int (S.2.1 30 ((p0 * 3) + (S.1 32)).toNatClampNeg)), (0, .ref (ad 25)), (1, .int p0), (2, .int p1), (3, .int p2)]) hx hb dX4_wouldLead_23 hl (by decide) rfl (fun ls hl => ?_)
    refine lv_aload_n hx hb dX4_wouldLead_25 rfl (lv_at hl 1 rfl) ?_
    refine lv_iload_n hx hb dX4_wouldLead_26 rfl (lv_at hl 2 rfl) ?_
    obtain ⟨r3, hr4, h⟩ := bd_of h
    refine wd_callV1 (As := [.int p0]) hC hW 25 wC_c25 rfl (c_X4_sumOfM l D cy ad X S p0 r3 hr4) (cwV 1 hts (gu_V w_17_3 w_23_5 w_17_1 w_17_2 w_1_23) rfl rfl rfl hdX4_sumOf ⟨Nat.le_of_ble_eq_true rfl, Nat.le_of_ble_eq_true rfl⟩) rfl hl.1 rfl (Nat.le_of_ble_eq_true rfl) ⟨Nat.zero_le _, Nat.zero_le _⟩ dX4_wouldLead_27 (fun H locs hW => ?_)
    refine lv_iload hx hb dX4_wouldLead_30 (lv_at hl 0 rfl) ?_
    refine lv_isub hx hb dX4_wouldLead_32 ?_
    refine lv_iload hx hb dX4_wouldLead_33 (lv_at hl 0 rfl) ?_
    refine lv_iload_n hx hb dX4_wouldLead_35 rfl (lv_at hl 3 rfl) ?_
    refine wd_max hC hl.1 ml93 msmax mi mcmax (Nat.le_of_ble_eq_true rfl) (Nat.le_of_ble_eq_true rfl) (Nat.zero_le _) (Nat.zero_le _) dX4_wouldLead_36 ?_
    refine lv_iadd hx hb dX4_wouldLead_39 ?_
    refine lv_topi (fun v5 ev6 => ?_)
    replace h := nm_eq h ev6
    refine lv_istore (lv' := [(5, .int v5), (4, .int (S.2.1 30 ((p0 * 3) + (S.1 32)).toNatClampNeg)), (0, .ref (ad 25)), (1, .int p0), (2, .int p1), (3, .int p2)]) hx hb dX4_wouldLead_40 hl (by decide) rfl (fun ls hl => ?_)
    refine lv_aload_n hx hb dX4_wouldLead_42 rfl (lv_at hl 2 rfl) ?_
    refine lv_iload_n hx hb dX4_wouldLead_43 rfl (lv_at hl 5 rfl) ?_
    obtain ⟨r7, hr8, h⟩ := bd_of h
    refine wd_callV1 (As := [.int p2]) hC hW 25 wC_c25 rfl (c_X4_sumOfM l D cy ad X S p2 r7 hr8) (cwV 1 hts (gu_V w_17_3 w_23_5 w_17_1 w_17_2 w_1_23) rfl rfl rfl hdX4_sumOf ⟨Nat.le_of_ble_eq_true rfl, Nat.le_of_ble_eq_true rfl⟩) rfl hl.1 rfl (Nat.le_of_ble_eq_true rfl) ⟨Nat.zero_le _, Nat.zero_le _⟩ dX4_wouldLead_44 (fun H locs hW => ?_)
    refine lv_istore (lv' := [(6, .int r7), (5, .int v5), (4, .int (S.2.1 30 ((p0 * 3) + (S.1 32)).toNatClampNeg)), (0, .ref (ad 25)), (1, .int p0), (2, .int p1), (3, .int p2)]) hx hb dX4_wouldLead_47 hl (by decide) rfl (fun ls hl => ?_)
    refine lv_iload hx hb dX4_wouldLead_49 (lv_at hl 1 rfl) ?_
    refine lv_iload hx hb dX4_wouldLead_51 (lv_at hl 0 rfl) ?_
    refine lv_icmp_eq (tgt := 71) hx hb dX4_wouldLead_53 (by decide) (fun c9 => ?_) (fun c9 => ?_)
    · replace h := ite_t h c9
      refine lv_aload_n hx hb dX4_wouldLead_71 rfl (lv_at hl 3 rfl) ?_
      refine wd_get hC i4 hW 25 wC_c25 rfl 0 (Nat.le_of_ble_eq_true rfl) f59 rfl rfl dX4_wouldLead_72 ?_
      refine lv_iload_n hx hb dX4_wouldLead_75 rfl (lv_at hl 4 rfl) ?_
      obtain ⟨hi10, h⟩ := ck_of h
      refine wd_aldq hC hW 3 wC_c3 hi10 rfl dX4_wouldLead_76 ?_
      refine lv_aload_n hx hb dX4_wouldLead_77 rfl (lv_at hl 3 rfl) ?_
      refine wd_get hC i4 hW 25 wC_c25 rfl 0 (Nat.le_of_ble_eq_true rfl) f59 rfl rfl dX4_wouldLead_78 ?_
      refine lv_iload_n hx hb dX4_wouldLead_81 rfl (lv_at hl 6 rfl) ?_
      obtain ⟨hi11, h⟩ := ck_of h
      refine wd_aldq hC hW 3 wC_c3 hi11 rfl dX4_wouldLead_82 ?_
      obtain ⟨r12, hr13, h⟩ := bd_of h
      refine wd_callV1 (As := [.ref (ad (4 + 3 * p2.toNatClampNeg))]) hC hW (4 + 3 * p0.toNatClampNeg) (wC_L (in_lt hi10)) rfl (c_X3_leadsLike l D cy ad X S p0.toNatClampNeg p2.toNatClampNeg r12 hr13 (in_lt hi10) (in_lt hi11)) (cwV 1 hts (gu_V w_23_9 w_23_6 w_23_7 w_23_8 w_1_20) rfl rfl rfl hdX3_leadsLike ⟨Nat.le_of_ble_eq_true rfl, Nat.le_of_ble_eq_true rfl⟩) rfl hl.1 rfl (Nat.le_of_ble_eq_true rfl) ⟨Nat.zero_le _, Nat.zero_le _⟩ dX4_wouldLead_83 (fun H locs hW => ?_)
      obtain ⟨hb14, h⟩ := ckb_of h
      obtain rfl := Option.some.inj h
      exact wd_zret hA hQ hC hr hk hW (ckb_nar hb14) dX4_wouldLead_86
    · replace h := ite_f h c9
      refine lv_iload hx hb dX4_wouldLead_56 (lv_at hl 1 rfl) ?_
      refine lv_iload hx hb dX4_wouldLead_58 (lv_at hl 0 rfl) ?_
      refine lv_icmp_le (tgt := 67) hx hb dX4_wouldLead_60 (by decide) (fun c15 => ?_) (fun c15 => ?_)
      · replace h := ite_t h c15
        refine lv_iconst (v := 0) hx hb dX4_wouldLead_67 (by decide) ?_
        refine lv_goto (tgt := 86) hx hb dX4_wouldLead_68 (by decide) ?_
        obtain rfl := Option.some.inj h
        exact wd_zret hA hQ hC hr hk hW rfl dX4_wouldLead_86
      · replace h := ite_f h c15
        refine lv_iconst (v := 1) hx hb dX4_wouldLead_63 (by decide) ?_
        refine lv_goto (tgt := 86) hx hb dX4_wouldLead_64 (by decide) ?_
        obtain rfl := Option.some.inj h
        exact wd_zret hA hQ hC hr hk hW rfl dX4_wouldLead_86
  · replace h := ite_f h c1
    refine lv_iconst (v := 0) hx hb dX4_wouldLead_8 (by decide) ?_
    obtain rfl := Option.some.inj h
    exact wd_zret hA hQ hC hr hk hW rfl dX4_wouldLead_9
set_option maxHeartbeats 4000000 in
set_option maxRecDepth 100000 in
theorem c_X4_wouldLeadD (l : Launch) (D : va_G) (cy : Nat → ClassId) (ad : Nat → Nat) (X : va_W) (S : St) (p0 : Int32) (p1 : Int32) (p2 : Int32) (r : (Int32)) (h : m_X4_wouldLead 40 34 S p0 p1 p2 = some r) : CT l yX4_wouldLead (wu yX4_wouldLead cX4_wouldLead 7 (some .boolean)) 1 D cy [.ref (ad 34), .int p0, .int p1, .int p2] (wC ad cy S ++ X) (some (.int r)) (wC ad cy S ++ X) := by
  refine CT.mk (cc := cX4_wouldLead) (maxL := 7) (ret := (some .boolean)) (own := RX4) (by decide) rfl rfl (Nat.le_of_ble_eq_true rfl) ?_
  intro p e s m args below meth c ls A Q hA hQ hC hr hk hW hl
  have hx := hC.1
  have hb := hC.2.1
  have hown := hC.2.2.2.1
  have hts := hC.2.2.2.2
  have hl : lv_has ls 7 [(0, .ref (ad 34)), (1, .int p0), (2, .int p1), (3, .int p2)] := hl
  have f18 := hts _ (wu_in w_3_16)
  have i4 := (fun w h => wu_in (inc_4 w h) : ∀ w ∈ u_ws RX4 TX4 16, w ∈ (wu yX4_wouldLead cX4_wouldLead 7 (some .boolean)))
  have f41 := hts _ (wu_in w_4_0)
  have ml93 := hts _ (wu_in w_16_19)
  have msmax := hts _ (wu_in w_15_13)
  have mi := hts _ (wu_in w_15_14)
  have mcmax := hts _ (wu_in w_15_15)
  have f59 := hts _ (wu_in w_4_6)
  unfold m_X4_wouldLead at h
  refine lv_aload_n hx hb dX4_wouldLead_0 rfl (lv_at hl 0 rfl) ?_
  refine wd_get hC i4 hW 34 wC_c34 rfl 3 (Nat.le_of_ble_eq_true rfl) f18 rfl rfl dX4_wouldLead_1 ?_
  refine lv_iconst (v := 3) hx hb dX4_wouldLead_4 (by decide) ?_
  refine lv_icmp_lt (tgt := 10) hx hb dX4_wouldLead_5 (by decide) (fun c1 => ?_) (fun c1 => ?_)
  · replace h := ite_t h c1
    refine lv_aload_n hx hb dX4_wouldLead_10 rfl (lv_at hl 0 rfl) ?_
    refine wd_get hC i4 hW 34 wC_c34 rfl 10 (Nat.le_of_ble_eq_true rfl) f41 rfl rfl dX4_wouldLead_11 ?_
    refine lv_iload_n hx hb dX4_wouldLead_14 rfl (lv_at hl 1 rfl) ?_
    refine lv_iconst (v := 3) hx hb dX4_wouldLead_15 (by decide) ?_
    refine lv_imul hx hb dX4_wouldLead_16 ?_
    refine lv_aload_n hx hb dX4_wouldLead_17 rfl (lv_at hl 0 rfl) ?_
    refine wd_get hC i4 hW 34 wC_c34 rfl 3 (Nat.le_of_ble_eq_true rfl) f18 rfl rfl dX4_wouldLead_18 ?_
    refine lv_iadd hx hb dX4_wouldLead_21 ?_
    obtain ⟨hi2, h⟩ := ck_of h
    refine wd_iald hC hW 39 wC_c39 hi2 dX4_wouldLead_22 ?_
    refine lv_istore (lv' := [(4, .int (S.2.1 39 ((p0 * 3) + (S.1 42)).toNatClampNeg)), (0, .ref (ad 34)), (1, .int p0), (2, .int p1), (3, .int p2)]) hx hb dX4_wouldLead_23 hl (by decide) rfl (fun ls hl => ?_)
    refine lv_aload_n hx hb dX4_wouldLead_25 rfl (lv_at hl 1 rfl) ?_
    refine lv_iload_n hx hb dX4_wouldLead_26 rfl (lv_at hl 2 rfl) ?_
    obtain ⟨r3, hr4, h⟩ := bd_of h
    refine wd_callV1 (As := [.int p0]) hC hW 34 wC_c34 rfl (c_X4_sumOfD l D cy ad X S p0 r3 hr4) (cwV 1 hts (gu_V w_17_3 w_23_5 w_17_1 w_17_2 w_1_23) rfl rfl rfl hdX4_sumOf ⟨Nat.le_of_ble_eq_true rfl, Nat.le_of_ble_eq_true rfl⟩) rfl hl.1 rfl (Nat.le_of_ble_eq_true rfl) ⟨Nat.zero_le _, Nat.zero_le _⟩ dX4_wouldLead_27 (fun H locs hW => ?_)
    refine lv_iload hx hb dX4_wouldLead_30 (lv_at hl 0 rfl) ?_
    refine lv_isub hx hb dX4_wouldLead_32 ?_
    refine lv_iload hx hb dX4_wouldLead_33 (lv_at hl 0 rfl) ?_
    refine lv_iload_n hx hb dX4_wouldLead_35 rfl (lv_at hl 3 rfl) ?_
    refine wd_max hC hl.1 ml93 msmax mi mcmax (Nat.le_of_ble_eq_true rfl) (Nat.le_of_ble_eq_true rfl) (Nat.zero_le _) (Nat.zero_le _) dX4_wouldLead_36 ?_
    refine lv_iadd hx hb dX4_wouldLead_39 ?_
    refine lv_topi (fun v5 ev6 => ?_)
    replace h := nm_eq h ev6
    refine lv_istore (lv' := [(5, .int v5), (4, .int (S.2.1 39 ((p0 * 3) + (S.1 42)).toNatClampNeg)), (0, .ref (ad 34)), (1, .int p0), (2, .int p1), (3, .int p2)]) hx hb dX4_wouldLead_40 hl (by decide) rfl (fun ls hl => ?_)
    refine lv_aload_n hx hb dX4_wouldLead_42 rfl (lv_at hl 2 rfl) ?_
    refine lv_iload_n hx hb dX4_wouldLead_43 rfl (lv_at hl 5 rfl) ?_
    obtain ⟨r7, hr8, h⟩ := bd_of h
    refine wd_callV1 (As := [.int p2]) hC hW 34 wC_c34 rfl (c_X4_sumOfD l D cy ad X S p2 r7 hr8) (cwV 1 hts (gu_V w_17_3 w_23_5 w_17_1 w_17_2 w_1_23) rfl rfl rfl hdX4_sumOf ⟨Nat.le_of_ble_eq_true rfl, Nat.le_of_ble_eq_true rfl⟩) rfl hl.1 rfl (Nat.le_of_ble_eq_true rfl) ⟨Nat.zero_le _, Nat.zero_le _⟩ dX4_wouldLead_44 (fun H locs hW => ?_)
    refine lv_istore (lv' := [(6, .int r7), (5, .int v5), (4, .int (S.2.1 39 ((p0 * 3) + (S.1 42)).toNatClampNeg)), (0, .ref (ad 34)), (1, .int p0), (2, .int p1), (3, .int p2)]) hx hb dX4_wouldLead_47 hl (by decide) rfl (fun ls hl => ?_)
    refine lv_iload hx hb dX4_wouldLead_49 (lv_at hl 1 rfl) ?_
    refine lv_iload hx hb dX4_wouldLead_51 (lv_at hl 0 rfl) ?_
    refine lv_icmp_eq (tgt := 71) hx hb dX4_wouldLead_53 (by decide) (fun c9 => ?_) (fun c9 => ?_)
    · replace h := ite_t h c9
      refine lv_aload_n hx hb dX4_wouldLead_71 rfl (lv_at hl 3 rfl) ?_
      refine wd_get hC i4 hW 34 wC_c34 rfl 0 (Nat.le_of_ble_eq_true rfl) f59 rfl rfl dX4_wouldLead_72 ?_
      refine lv_iload_n hx hb dX4_wouldLead_75 rfl (lv_at hl 4 rfl) ?_
      obtain ⟨hi10, h⟩ := ck_of h
      refine wd_aldq hC hW 3 wC_c3 hi10 rfl dX4_wouldLead_76 ?_
      refine lv_aload_n hx hb dX4_wouldLead_77 rfl (lv_at hl 3 rfl) ?_
      refine wd_get hC i4 hW 34 wC_c34 rfl 0 (Nat.le_of_ble_eq_true rfl) f59 rfl rfl dX4_wouldLead_78 ?_
      refine lv_iload_n hx hb dX4_wouldLead_81 rfl (lv_at hl 6 rfl) ?_
      obtain ⟨hi11, h⟩ := ck_of h
      refine wd_aldq hC hW 3 wC_c3 hi11 rfl dX4_wouldLead_82 ?_
      obtain ⟨r12, hr13, h⟩ := bd_of h
      refine wd_callV1 (As := [.ref (ad (4 + 3 * p2.toNatClampNeg))]) hC hW (4 + 3 * p0.toNatClampNeg) (wC_L (in_lt hi10)) rfl (c_X3_leadsLike l D cy ad X S p0.toNatClampNeg p2.toNatClampNeg r12 hr13 (in_lt hi10) (in_lt hi11)) (cwV 1 hts (gu_V w_23_9 w_23_6 w_23_7 w_23_8 w_1_20) rfl rfl rfl hdX3_leadsLike ⟨Nat.le_of_ble_eq_true rfl, Nat.le_of_ble_eq_true rfl⟩) rfl hl.1 rfl (Nat.le_of_ble_eq_true rfl) ⟨Nat.zero_le _, Nat.zero_le _⟩ dX4_wouldLead_83 (fun H locs hW => ?_)
      obtain ⟨hb14, h⟩ := ckb_of h
      obtain rfl := Option.some.inj h
      exact wd_zret hA hQ hC hr hk hW (ckb_nar hb14) dX4_wouldLead_86
    · replace h := ite_f h c9
      refine lv_iload hx hb dX4_wouldLead_56 (lv_at hl 1 rfl) ?_
      refine lv_iload hx hb dX4_wouldLead_58 (lv_at hl 0 rfl) ?_
      refine lv_icmp_le (tgt := 67) hx hb dX4_wouldLead_60 (by decide) (fun c15 => ?_) (fun c15 => ?_)
      · replace h := ite_t h c15
        refine lv_iconst (v := 0) hx hb dX4_wouldLead_67 (by decide) ?_
        refine lv_goto (tgt := 86) hx hb dX4_wouldLead_68 (by decide) ?_
        obtain rfl := Option.some.inj h
        exact wd_zret hA hQ hC hr hk hW rfl dX4_wouldLead_86
      · replace h := ite_f h c15
        refine lv_iconst (v := 1) hx hb dX4_wouldLead_63 (by decide) ?_
        refine lv_goto (tgt := 86) hx hb dX4_wouldLead_64 (by decide) ?_
        obtain rfl := Option.some.inj h
        exact wd_zret hA hQ hC hr hk hW rfl dX4_wouldLead_86
  · replace h := ite_f h c1
    refine lv_iconst (v := 0) hx hb dX4_wouldLead_8 (by decide) ?_
    obtain rfl := Option.some.inj h
    exact wd_zret hA hQ hC hr hk hW rfl dX4_wouldLead_9
def m_X4_placeOf_L4 (ib ab : Nat) : Nat → St → Int32 → Int32 → Int32 → Option (Int32)
  | 0, _, _, _, _ => none
  | n + 1, S, x1, x2, x3 =>
    if (S.1 (ib + 0)) ≤ x3 then (some x2) else (if x3 = x1 then (m_X4_placeOf_L4 ib ab n S x1 x2 (x3 + 1)) else ((m_X4_isAhead ib ab S x3 x1).bind (fun r5 => if r5 = 0 then (m_X4_placeOf_L4 ib ab n S x1 x2 (x3 + 1)) else (m_X4_placeOf_L4 ib ab n S x1 (x2 + 1) (x3 + 1)))))
theorem m_X4_placeOf_L4_0 {ib ab : Nat} (S : St) (x1 : Int32) (x2 : Int32) (x3 : Int32) : m_X4_placeOf_L4 ib ab 0 S x1 x2 x3 = none := rfl
theorem m_X4_placeOf_L4_s {ib ab : Nat} {n : Nat} {S : St} {x1 : Int32} {x2 : Int32} {x3 : Int32} : m_X4_placeOf_L4 ib ab (n + 1) S x1 x2 x3 =
    (if (S.1 (ib + 0)) ≤ x3 then (some x2) else (if x3 = x1 then (m_X4_placeOf_L4 ib ab n S x1 x2 (x3 + 1)) else ((m_X4_isAhead ib ab S x3 x1).bind (fun r5 => if r5 = 0 then (m_X4_placeOf_L4 ib ab n S x1 x2 (x3 + 1)) else (m_X4_placeOf_L4 ib ab n S x1 (x2 + 1) (x3 + 1)))))) := rfl
def m_X4_placeOf (ib ab : Nat) (n : Nat) (S : St) (p0 : Int32) : Option (Int32) :=
  (m_X4_placeOf_L4 ib ab n S p0 0 0).bind (fun q1 => some q1)
set_option maxHeartbeats 4000000 in
set_option maxRecDepth 100000 in
theorem c_X4_placeOfM (l : Launch) (D : va_G) (cy : Nat → ClassId) (ad : Nat → Nat) (X : va_W) (n : Nat) (S : St) (p0 : Int32) (r : (Int32)) (h : m_X4_placeOf 30 25 n S p0 = some r) : CT l yX4_placeOf (wu yX4_placeOf cX4_placeOf 4 (some .int)) 2 D cy [.ref (ad 25), .int p0] (wC ad cy S ++ X) (some (.int r)) (wC ad cy S ++ X) := by
  refine CT.mk (cc := cX4_placeOf) (maxL := 4) (ret := (some .int)) (own := RX4) (by decide) rfl rfl (Nat.le_of_ble_eq_true rfl) ?_
  intro p e s m args below meth c ls A Q hA hQ hC hr hk hW hl
  have hx := hC.1
  have hb := hC.2.1
  have hown := hC.2.2.2.1
  have hts := hC.2.2.2.2
  have hl : lv_has ls 4 [(0, .ref (ad 25)), (1, .int p0)] := hl
  have f9 := hts _ (wu_in w_3_14)
  have i4 := (fun w h => wu_in (inc_4 w h) : ∀ w ∈ u_ws RX4 TX4 16, w ∈ (wu yX4_placeOf cX4_placeOf 4 (some .int)))
  unfold m_X4_placeOf at h
  refine lv_iconst (v := 0) hx hb dX4_placeOf_0 (by decide) ?_
  refine lv_istore_n (lv' := [(2, .int 0), (0, .ref (ad 25)), (1, .int p0)]) hx hb dX4_placeOf_1 rfl hl (by decide) rfl (fun ls hl => ?_)
  refine lv_iconst (v := 0) hx hb dX4_placeOf_2 (by decide) ?_
  refine lv_istore_n (lv' := [(3, .int 0), (2, .int 0), (0, .ref (ad 25)), (1, .int p0)]) hx hb dX4_placeOf_3 rfl hl (by decide) rfl (fun ls hl => ?_)
  have hL4 : ∀ (n : Nat) (x1 : Int32) (x2 : Int32) (x3 : Int32)  (H : Heap) (locs : List Loc) (ls : Array Slot) (r : (Int32)), m_X4_placeOf_L4 30 25 n S x1 x2 x3 = some r → Wd D cy A s (wC ad cy S ++ X) H locs → lv_has ls 4 [(0, .ref (ad 25)), (1, .int x1), (2, .int x2), (3, .int x3)] → (∀ (H : Heap) (locs : List Loc) (ls : Array Slot), Wd D cy A s (wC ad cy S ++ X) H locs → lv_has ls 4 [(0, .ref (ad 25)), (1, .int x1), (2, .int r)] → W p l e (RM 2) s m args below meth c H locs 0 0 Q (F0 m 35 ls [])) → W p l e (RM 2) s m args below meth c H locs 0 0 Q (F0 m 4 ls []) := by
    intro n
    induction n with
    | zero =>
      intro x1 x2 x3  H locs ls r h
      exact absurd (h.symm.trans (m_X4_placeOf_L4_0 ..)) (by simp)
    | succ n ih =>
      intro x1 x2 x3  H locs ls r h hW hl kk
      rw [m_X4_placeOf_L4_s] at h
      refine lv_iload_n hx hb dX4_placeOf_4 rfl (lv_at hl 3 rfl) ?_
      refine lv_aload_n hx hb dX4_placeOf_5 rfl (lv_at hl 0 rfl) ?_
      refine wd_get hC i4 hW 25 wC_c25 rfl 1 (Nat.le_of_ble_eq_true rfl) f9 rfl rfl dX4_placeOf_6 ?_
      refine lv_icmp_ge (tgt := 35) hx hb dX4_placeOf_9 (by decide) (fun c3 => ?_) (fun c3 => ?_)
      · replace h := ite_t h c3
        obtain rfl := Option.some.inj h
        exact kk _ _ _ hW (lv_sub hl [0, 1, 2] rfl)
      · replace h := ite_f h c3
        refine lv_iload_n hx hb dX4_placeOf_12 rfl (lv_at hl 3 rfl) ?_
        refine lv_iload_n hx hb dX4_placeOf_13 rfl (lv_at hl 1 rfl) ?_
        refine lv_icmp_eq (tgt := 29) hx hb dX4_placeOf_14 (by decide) (fun c4 => ?_) (fun c4 => ?_)
        · replace h := ite_t h c4
          refine lv_iinc (v := x3 + 1) (lv' := [(3, .int (x3 + 1)), (0, .ref (ad 25)), (1, .int x1), (2, .int x2)]) hx hb dX4_placeOf_29 hl (k := 3) rfl rfl (by decide) rfl (fun ls hl => ?_)
          refine lv_goto (tgt := 4) hx hb dX4_placeOf_32 (by decide) ?_
          exact ih x1 x2 (x3 + 1) _ _ _ r h hW (lv_sub hl [1, 2, 3, 0] rfl) kk
        · replace h := ite_f h c4
          refine lv_aload_n hx hb dX4_placeOf_17 rfl (lv_at hl 0 rfl) ?_
          refine lv_iload_n hx hb dX4_placeOf_18 rfl (lv_at hl 3 rfl) ?_
          refine lv_iload_n hx hb dX4_placeOf_19 rfl (lv_at hl 1 rfl) ?_
          obtain ⟨r5, hr6, h⟩ := bd_of h
          refine wd_callV1 (As := [.int x3, .int x1]) hC hW 25 wC_c25 rfl (c_X4_isAheadM l D cy ad X S x3 x1 r5 hr6) (cwV 2 hts (gu_V w_23_4 w_23_1 w_23_2 w_23_3 w_1_23) rfl rfl rfl hdX4_isAhead ⟨Nat.le_of_ble_eq_true rfl, Nat.le_of_ble_eq_true rfl⟩) rfl hl.1 rfl (Nat.le_of_ble_eq_true rfl) ⟨Nat.zero_le _, Nat.zero_le _⟩ dX4_placeOf_20 (fun H locs hW => ?_)
          refine lv_if_eq (tgt := 29) hx hb dX4_placeOf_23 (by decide) (fun c7 => ?_) (fun c7 => ?_)
          · replace h := ite_t h c7
            refine lv_iinc (v := x3 + 1) (lv' := [(3, .int (x3 + 1)), (0, .ref (ad 25)), (1, .int x1), (2, .int x2)]) hx hb dX4_placeOf_29 hl (k := 3) rfl rfl (by decide) rfl (fun ls hl => ?_)
            refine lv_goto (tgt := 4) hx hb dX4_placeOf_32 (by decide) ?_
            exact ih x1 x2 (x3 + 1) _ _ _ r h hW (lv_sub hl [1, 2, 3, 0] rfl) kk
          · replace h := ite_f h c7
            refine lv_iinc (v := x2 + 1) (lv' := [(2, .int (x2 + 1)), (0, .ref (ad 25)), (1, .int x1), (3, .int x3)]) hx hb dX4_placeOf_26 hl (k := 2) rfl rfl (by decide) rfl (fun ls hl => ?_)
            refine lv_iinc (v := x3 + 1) (lv' := [(3, .int (x3 + 1)), (2, .int (x2 + 1)), (0, .ref (ad 25)), (1, .int x1)]) hx hb dX4_placeOf_29 hl (k := 3) rfl rfl (by decide) rfl (fun ls hl => ?_)
            refine lv_goto (tgt := 4) hx hb dX4_placeOf_32 (by decide) ?_
            exact ih x1 (x2 + 1) (x3 + 1) _ _ _ r h hW (lv_sub hl [2, 3, 1, 0] rfl) kk
  obtain ⟨q1, hq2, h⟩ := bd_of h
  refine hL4 n p0 0 0  _ _ _ q1 hq2 hW (lv_sub hl [2, 3, 1, 0] rfl) (fun H locs ls hW hl => ?_)
  refine lv_iload_n hx hb dX4_placeOf_35 rfl (lv_at hl 2 rfl) ?_
  obtain rfl := Option.some.inj h
  exact wd_iret hA hQ hC hr hk hW dX4_placeOf_36
set_option maxHeartbeats 4000000 in
set_option maxRecDepth 100000 in
theorem c_X4_placeOfD (l : Launch) (D : va_G) (cy : Nat → ClassId) (ad : Nat → Nat) (X : va_W) (n : Nat) (S : St) (p0 : Int32) (r : (Int32)) (h : m_X4_placeOf 40 34 n S p0 = some r) : CT l yX4_placeOf (wu yX4_placeOf cX4_placeOf 4 (some .int)) 2 D cy [.ref (ad 34), .int p0] (wC ad cy S ++ X) (some (.int r)) (wC ad cy S ++ X) := by
  refine CT.mk (cc := cX4_placeOf) (maxL := 4) (ret := (some .int)) (own := RX4) (by decide) rfl rfl (Nat.le_of_ble_eq_true rfl) ?_
  intro p e s m args below meth c ls A Q hA hQ hC hr hk hW hl
  have hx := hC.1
  have hb := hC.2.1
  have hown := hC.2.2.2.1
  have hts := hC.2.2.2.2
  have hl : lv_has ls 4 [(0, .ref (ad 34)), (1, .int p0)] := hl
  have f9 := hts _ (wu_in w_3_14)
  have i4 := (fun w h => wu_in (inc_4 w h) : ∀ w ∈ u_ws RX4 TX4 16, w ∈ (wu yX4_placeOf cX4_placeOf 4 (some .int)))
  unfold m_X4_placeOf at h
  refine lv_iconst (v := 0) hx hb dX4_placeOf_0 (by decide) ?_
  refine lv_istore_n (lv' := [(2, .int 0), (0, .ref (ad 34)), (1, .int p0)]) hx hb dX4_placeOf_1 rfl hl (by decide) rfl (fun ls hl => ?_)
  refine lv_iconst (v := 0) hx hb dX4_placeOf_2 (by decide) ?_
  refine lv_istore_n (lv' := [(3, .int 0), (2, .int 0), (0, .ref (ad 34)), (1, .int p0)]) hx hb dX4_placeOf_3 rfl hl (by decide) rfl (fun ls hl => ?_)
  have hL4 : ∀ (n : Nat) (x1 : Int32) (x2 : Int32) (x3 : Int32)  (H : Heap) (locs : List Loc) (ls : Array Slot) (r : (Int32)), m_X4_placeOf_L4 40 34 n S x1 x2 x3 = some r → Wd D cy A s (wC ad cy S ++ X) H locs → lv_has ls 4 [(0, .ref (ad 34)), (1, .int x1), (2, .int x2), (3, .int x3)] → (∀ (H : Heap) (locs : List Loc) (ls : Array Slot), Wd D cy A s (wC ad cy S ++ X) H locs → lv_has ls 4 [(0, .ref (ad 34)), (1, .int x1), (2, .int r)] → W p l e (RM 2) s m args below meth c H locs 0 0 Q (F0 m 35 ls [])) → W p l e (RM 2) s m args below meth c H locs 0 0 Q (F0 m 4 ls []) := by
    intro n
    induction n with
    | zero =>
      intro x1 x2 x3  H locs ls r h
      exact absurd (h.symm.trans (m_X4_placeOf_L4_0 ..)) (by simp)
    | succ n ih =>
      intro x1 x2 x3  H locs ls r h hW hl kk
      rw [m_X4_placeOf_L4_s] at h
      refine lv_iload_n hx hb dX4_placeOf_4 rfl (lv_at hl 3 rfl) ?_
      refine lv_aload_n hx hb dX4_placeOf_5 rfl (lv_at hl 0 rfl) ?_
      refine wd_get hC i4 hW 34 wC_c34 rfl 1 (Nat.le_of_ble_eq_true rfl) f9 rfl rfl dX4_placeOf_6 ?_
      refine lv_icmp_ge (tgt := 35) hx hb dX4_placeOf_9 (by decide) (fun c3 => ?_) (fun c3 => ?_)
      · replace h := ite_t h c3
        obtain rfl := Option.some.inj h
        exact kk _ _ _ hW (lv_sub hl [0, 1, 2] rfl)
      · replace h := ite_f h c3
        refine lv_iload_n hx hb dX4_placeOf_12 rfl (lv_at hl 3 rfl) ?_
        refine lv_iload_n hx hb dX4_placeOf_13 rfl (lv_at hl 1 rfl) ?_
        refine lv_icmp_eq (tgt := 29) hx hb dX4_placeOf_14 (by decide) (fun c4 => ?_) (fun c4 => ?_)
        · replace h := ite_t h c4
          refine lv_iinc (v := x3 + 1) (lv' := [(3, .int (x3 + 1)), (0, .ref (ad 34)), (1, .int x1), (2, .int x2)]) hx hb dX4_placeOf_29 hl (k := 3) rfl rfl (by decide) rfl (fun ls hl => ?_)
          refine lv_goto (tgt := 4) hx hb dX4_placeOf_32 (by decide) ?_
          exact ih x1 x2 (x3 + 1) _ _ _ r h hW (lv_sub hl [1, 2, 3, 0] rfl) kk
        · replace h := ite_f h c4
          refine lv_aload_n hx hb dX4_placeOf_17 rfl (lv_at hl 0 rfl) ?_
          refine lv_iload_n hx hb dX4_placeOf_18 rfl (lv_at hl 3 rfl) ?_
          refine lv_iload_n hx hb dX4_placeOf_19 rfl (lv_at hl 1 rfl) ?_
          obtain ⟨r5, hr6, h⟩ := bd_of h
          refine wd_callV1 (As := [.int x3, .int x1]) hC hW 34 wC_c34 rfl (c_X4_isAheadD l D cy ad X S x3 x1 r5 hr6) (cwV 2 hts (gu_V w_23_4 w_23_1 w_23_2 w_23_3 w_1_23) rfl rfl rfl hdX4_isAhead ⟨Nat.le_of_ble_eq_true rfl, Nat.le_of_ble_eq_true rfl⟩) rfl hl.1 rfl (Nat.le_of_ble_eq_true rfl) ⟨Nat.zero_le _, Nat.zero_le _⟩ dX4_placeOf_20 (fun H locs hW => ?_)
          refine lv_if_eq (tgt := 29) hx hb dX4_placeOf_23 (by decide) (fun c7 => ?_) (fun c7 => ?_)
          · replace h := ite_t h c7
            refine lv_iinc (v := x3 + 1) (lv' := [(3, .int (x3 + 1)), (0, .ref (ad 34)), (1, .int x1), (2, .int x2)]) hx hb dX4_placeOf_29 hl (k := 3) rfl rfl (by decide) rfl (fun ls hl => ?_)
            refine lv_goto (tgt := 4) hx hb dX4_placeOf_32 (by decide) ?_
            exact ih x1 x2 (x3 + 1) _ _ _ r h hW (lv_sub hl [1, 2, 3, 0] rfl) kk
          · replace h := ite_f h c7
            refine lv_iinc (v := x2 + 1) (lv' := [(2, .int (x2 + 1)), (0, .ref (ad 34)), (1, .int x1), (3, .int x3)]) hx hb dX4_placeOf_26 hl (k := 2) rfl rfl (by decide) rfl (fun ls hl => ?_)
            refine lv_iinc (v := x3 + 1) (lv' := [(3, .int (x3 + 1)), (2, .int (x2 + 1)), (0, .ref (ad 34)), (1, .int x1)]) hx hb dX4_placeOf_29 hl (k := 3) rfl rfl (by decide) rfl (fun ls hl => ?_)
            refine lv_goto (tgt := 4) hx hb dX4_placeOf_32 (by decide) ?_
            exact ih x1 (x2 + 1) (x3 + 1) _ _ _ r h hW (lv_sub hl [2, 3, 1, 0] rfl) kk
  obtain ⟨q1, hq2, h⟩ := bd_of h
  refine hL4 n p0 0 0  _ _ _ q1 hq2 hW (lv_sub hl [2, 3, 1, 0] rfl) (fun H locs ls hW hl => ?_)
  refine lv_iload_n hx hb dX4_placeOf_35 rfl (lv_at hl 2 rfl) ?_
  obtain rfl := Option.some.inj h
  exact wd_iret hA hQ hC hr hk hW dX4_placeOf_36
def m_X4_outBits_L4 (ib ab : Nat) : Nat → St → Int32 → Int32 → Option (Int32)
  | 0, _, _, _ => none
  | n + 1, S, x1, x2 =>
    if (S.1 (ib + 0)) ≤ x2 then (some x1) else (ck x2 6 (if (S.2.1 (ab + 4) x2.toNatClampNeg) = 0 then (m_X4_outBits_L4 ib ab n S x1 (x2 + 1)) else (m_X4_outBits_L4 ib ab n S (x1 ||| (1 <<< (x2 &&& 31))) (x2 + 1))))
theorem m_X4_outBits_L4_0 {ib ab : Nat} (S : St) (x1 : Int32) (x2 : Int32) : m_X4_outBits_L4 ib ab 0 S x1 x2 = none := rfl
theorem m_X4_outBits_L4_s {ib ab : Nat} {n : Nat} {S : St} {x1 : Int32} {x2 : Int32} : m_X4_outBits_L4 ib ab (n + 1) S x1 x2 =
    (if (S.1 (ib + 0)) ≤ x2 then (some x1) else (ck x2 6 (if (S.2.1 (ab + 4) x2.toNatClampNeg) = 0 then (m_X4_outBits_L4 ib ab n S x1 (x2 + 1)) else (m_X4_outBits_L4 ib ab n S (x1 ||| (1 <<< (x2 &&& 31))) (x2 + 1))))) := rfl
def m_X4_outBits (ib ab : Nat) (n : Nat) (S : St) : Option (Int32) :=
  (m_X4_outBits_L4 ib ab n S 0 0).bind (fun q1 => some q1)
set_option maxHeartbeats 4000000 in
set_option maxRecDepth 100000 in
theorem c_X4_outBitsM (l : Launch) (D : va_G) (cy : Nat → ClassId) (ad : Nat → Nat) (X : va_W) (n : Nat) (S : St) (r : (Int32)) (h : m_X4_outBits 30 25 n S = some r) : CT l yX4_outBits (wu yX4_outBits cX4_outBits 3 (some .int)) 0 D cy [.ref (ad 25)] (wC ad cy S ++ X) (some (.int r)) (wC ad cy S ++ X) := by
  refine CT.mk (cc := cX4_outBits) (maxL := 3) (ret := (some .int)) (own := RX4) (by decide) rfl rfl (Nat.le_of_ble_eq_true rfl) ?_
  intro p e s m args below meth c ls A Q hA hQ hC hr hk hW hl
  have hx := hC.1
  have hb := hC.2.1
  have hown := hC.2.2.2.1
  have hts := hC.2.2.2.2
  have hl : lv_has ls 3 [(0, .ref (ad 25))] := hl
  have f9 := hts _ (wu_in w_3_14)
  have i4 := (fun w h => wu_in (inc_4 w h) : ∀ w ∈ u_ws RX4 TX4 16, w ∈ (wu yX4_outBits cX4_outBits 3 (some .int)))
  have f38 := hts _ (wu_in w_3_23)
  unfold m_X4_outBits at h
  refine lv_iconst (v := 0) hx hb dX4_outBits_0 (by decide) ?_
  refine lv_istore_n (lv' := [(1, .int 0), (0, .ref (ad 25))]) hx hb dX4_outBits_1 rfl hl (by decide) rfl (fun ls hl => ?_)
  refine lv_iconst (v := 0) hx hb dX4_outBits_2 (by decide) ?_
  refine lv_istore_n (lv' := [(2, .int 0), (1, .int 0), (0, .ref (ad 25))]) hx hb dX4_outBits_3 rfl hl (by decide) rfl (fun ls hl => ?_)
  have hL4 : ∀ (n : Nat) (x1 : Int32) (x2 : Int32)  (H : Heap) (locs : List Loc) (ls : Array Slot) (r : (Int32)), m_X4_outBits_L4 30 25 n S x1 x2 = some r → Wd D cy A s (wC ad cy S ++ X) H locs → lv_has ls 3 [(0, .ref (ad 25)), (1, .int x1), (2, .int x2)] → (∀ (H : Heap) (locs : List Loc) (ls : Array Slot), Wd D cy A s (wC ad cy S ++ X) H locs → lv_has ls 3 [(0, .ref (ad 25)), (1, .int r)] → W p l e (RM 0) s m args below meth c H locs 0 0 Q (F0 m 33 ls [])) → W p l e (RM 0) s m args below meth c H locs 0 0 Q (F0 m 4 ls []) := by
    intro n
    induction n with
    | zero =>
      intro x1 x2  H locs ls r h
      exact absurd (h.symm.trans (m_X4_outBits_L4_0 ..)) (by simp)
    | succ n ih =>
      intro x1 x2  H locs ls r h hW hl kk
      rw [m_X4_outBits_L4_s] at h
      refine lv_iload_n hx hb dX4_outBits_4 rfl (lv_at hl 2 rfl) ?_
      refine lv_aload_n hx hb dX4_outBits_5 rfl (lv_at hl 0 rfl) ?_
      refine wd_get hC i4 hW 25 wC_c25 rfl 1 (Nat.le_of_ble_eq_true rfl) f9 rfl rfl dX4_outBits_6 ?_
      refine lv_icmp_ge (tgt := 33) hx hb dX4_outBits_9 (by decide) (fun c3 => ?_) (fun c3 => ?_)
      · replace h := ite_t h c3
        obtain rfl := Option.some.inj h
        exact kk _ _ _ hW (lv_sub hl [0, 1] rfl)
      · replace h := ite_f h c3
        refine lv_aload_n hx hb dX4_outBits_12 rfl (lv_at hl 0 rfl) ?_
        refine wd_get hC i4 hW 25 wC_c25 rfl 9 (Nat.le_of_ble_eq_true rfl) f38 rfl rfl dX4_outBits_13 ?_
        refine lv_iload_n hx hb dX4_outBits_16 rfl (lv_at hl 2 rfl) ?_
        obtain ⟨hi4, h⟩ := ck_of h
        refine wd_zald hC hW 29 wC_c29 hi4 dX4_outBits_17 ?_
        refine lv_if_eq (tgt := 27) hx hb dX4_outBits_18 (by decide) (fun c5 => ?_) (fun c5 => ?_)
        · replace h := ite_t h c5
          refine lv_iinc (v := x2 + 1) (lv' := [(2, .int (x2 + 1)), (0, .ref (ad 25)), (1, .int x1)]) hx hb dX4_outBits_27 hl (k := 2) rfl rfl (by decide) rfl (fun ls hl => ?_)
          refine lv_goto (tgt := 4) hx hb dX4_outBits_30 (by decide) ?_
          exact ih x1 (x2 + 1) _ _ _ r h hW (lv_sub hl [1, 2, 0] rfl) kk
        · replace h := ite_f h c5
          refine lv_iload_n hx hb dX4_outBits_21 rfl (lv_at hl 1 rfl) ?_
          refine lv_iconst (v := 1) hx hb dX4_outBits_22 (by decide) ?_
          refine lv_iload_n hx hb dX4_outBits_23 rfl (lv_at hl 2 rfl) ?_
          refine lv_ishl hx hb dX4_outBits_24 ?_
          refine lv_ior hx hb dX4_outBits_25 ?_
          refine lv_istore_n (lv' := [(1, .int (x1 ||| (1 <<< (x2 &&& 31)))), (0, .ref (ad 25)), (2, .int x2)]) hx hb dX4_outBits_26 rfl hl (by decide) rfl (fun ls hl => ?_)
          refine lv_iinc (v := x2 + 1) (lv' := [(2, .int (x2 + 1)), (1, .int (x1 ||| (1 <<< (x2 &&& 31)))), (0, .ref (ad 25))]) hx hb dX4_outBits_27 hl (k := 2) rfl rfl (by decide) rfl (fun ls hl => ?_)
          refine lv_goto (tgt := 4) hx hb dX4_outBits_30 (by decide) ?_
          exact ih (x1 ||| (1 <<< (x2 &&& 31))) (x2 + 1) _ _ _ r h hW (lv_sub hl [2, 1, 0] rfl) kk
  obtain ⟨q1, hq2, h⟩ := bd_of h
  refine hL4 n 0 0  _ _ _ q1 hq2 hW (lv_sub hl [2, 1, 0] rfl) (fun H locs ls hW hl => ?_)
  refine lv_iload_n hx hb dX4_outBits_33 rfl (lv_at hl 1 rfl) ?_
  obtain rfl := Option.some.inj h
  exact wd_iret hA hQ hC hr hk hW dX4_outBits_34
set_option maxHeartbeats 4000000 in
set_option maxRecDepth 100000 in
theorem c_X4_outBitsD (l : Launch) (D : va_G) (cy : Nat → ClassId) (ad : Nat → Nat) (X : va_W) (n : Nat) (S : St) (r : (Int32)) (h : m_X4_outBits 40 34 n S = some r) : CT l yX4_outBits (wu yX4_outBits cX4_outBits 3 (some .int)) 0 D cy [.ref (ad 34)] (wC ad cy S ++ X) (some (.int r)) (wC ad cy S ++ X) := by
  refine CT.mk (cc := cX4_outBits) (maxL := 3) (ret := (some .int)) (own := RX4) (by decide) rfl rfl (Nat.le_of_ble_eq_true rfl) ?_
  intro p e s m args below meth c ls A Q hA hQ hC hr hk hW hl
  have hx := hC.1
  have hb := hC.2.1
  have hown := hC.2.2.2.1
  have hts := hC.2.2.2.2
  have hl : lv_has ls 3 [(0, .ref (ad 34))] := hl
  have f9 := hts _ (wu_in w_3_14)
  have i4 := (fun w h => wu_in (inc_4 w h) : ∀ w ∈ u_ws RX4 TX4 16, w ∈ (wu yX4_outBits cX4_outBits 3 (some .int)))
  have f38 := hts _ (wu_in w_3_23)
  unfold m_X4_outBits at h
  refine lv_iconst (v := 0) hx hb dX4_outBits_0 (by decide) ?_
  refine lv_istore_n (lv' := [(1, .int 0), (0, .ref (ad 34))]) hx hb dX4_outBits_1 rfl hl (by decide) rfl (fun ls hl => ?_)
  refine lv_iconst (v := 0) hx hb dX4_outBits_2 (by decide) ?_
  refine lv_istore_n (lv' := [(2, .int 0), (1, .int 0), (0, .ref (ad 34))]) hx hb dX4_outBits_3 rfl hl (by decide) rfl (fun ls hl => ?_)
  have hL4 : ∀ (n : Nat) (x1 : Int32) (x2 : Int32)  (H : Heap) (locs : List Loc) (ls : Array Slot) (r : (Int32)), m_X4_outBits_L4 40 34 n S x1 x2 = some r → Wd D cy A s (wC ad cy S ++ X) H locs → lv_has ls 3 [(0, .ref (ad 34)), (1, .int x1), (2, .int x2)] → (∀ (H : Heap) (locs : List Loc) (ls : Array Slot), Wd D cy A s (wC ad cy S ++ X) H locs → lv_has ls 3 [(0, .ref (ad 34)), (1, .int r)] → W p l e (RM 0) s m args below meth c H locs 0 0 Q (F0 m 33 ls [])) → W p l e (RM 0) s m args below meth c H locs 0 0 Q (F0 m 4 ls []) := by
    intro n
    induction n with
    | zero =>
      intro x1 x2  H locs ls r h
      exact absurd (h.symm.trans (m_X4_outBits_L4_0 ..)) (by simp)
    | succ n ih =>
      intro x1 x2  H locs ls r h hW hl kk
      rw [m_X4_outBits_L4_s] at h
      refine lv_iload_n hx hb dX4_outBits_4 rfl (lv_at hl 2 rfl) ?_
      refine lv_aload_n hx hb dX4_outBits_5 rfl (lv_at hl 0 rfl) ?_
      refine wd_get hC i4 hW 34 wC_c34 rfl 1 (Nat.le_of_ble_eq_true rfl) f9 rfl rfl dX4_outBits_6 ?_
      refine lv_icmp_ge (tgt := 33) hx hb dX4_outBits_9 (by decide) (fun c3 => ?_) (fun c3 => ?_)
      · replace h := ite_t h c3
        obtain rfl := Option.some.inj h
        exact kk _ _ _ hW (lv_sub hl [0, 1] rfl)
      · replace h := ite_f h c3
        refine lv_aload_n hx hb dX4_outBits_12 rfl (lv_at hl 0 rfl) ?_
        refine wd_get hC i4 hW 34 wC_c34 rfl 9 (Nat.le_of_ble_eq_true rfl) f38 rfl rfl dX4_outBits_13 ?_
        refine lv_iload_n hx hb dX4_outBits_16 rfl (lv_at hl 2 rfl) ?_
        obtain ⟨hi4, h⟩ := ck_of h
        refine wd_zald hC hW 38 wC_c38 hi4 dX4_outBits_17 ?_
        refine lv_if_eq (tgt := 27) hx hb dX4_outBits_18 (by decide) (fun c5 => ?_) (fun c5 => ?_)
        · replace h := ite_t h c5
          refine lv_iinc (v := x2 + 1) (lv' := [(2, .int (x2 + 1)), (0, .ref (ad 34)), (1, .int x1)]) hx hb dX4_outBits_27 hl (k := 2) rfl rfl (by decide) rfl (fun ls hl => ?_)
          refine lv_goto (tgt := 4) hx hb dX4_outBits_30 (by decide) ?_
          exact ih x1 (x2 + 1) _ _ _ r h hW (lv_sub hl [1, 2, 0] rfl) kk
        · replace h := ite_f h c5
          refine lv_iload_n hx hb dX4_outBits_21 rfl (lv_at hl 1 rfl) ?_
          refine lv_iconst (v := 1) hx hb dX4_outBits_22 (by decide) ?_
          refine lv_iload_n hx hb dX4_outBits_23 rfl (lv_at hl 2 rfl) ?_
          refine lv_ishl hx hb dX4_outBits_24 ?_
          refine lv_ior hx hb dX4_outBits_25 ?_
          refine lv_istore_n (lv' := [(1, .int (x1 ||| (1 <<< (x2 &&& 31)))), (0, .ref (ad 34)), (2, .int x2)]) hx hb dX4_outBits_26 rfl hl (by decide) rfl (fun ls hl => ?_)
          refine lv_iinc (v := x2 + 1) (lv' := [(2, .int (x2 + 1)), (1, .int (x1 ||| (1 <<< (x2 &&& 31)))), (0, .ref (ad 34))]) hx hb dX4_outBits_27 hl (k := 2) rfl rfl (by decide) rfl (fun ls hl => ?_)
          refine lv_goto (tgt := 4) hx hb dX4_outBits_30 (by decide) ?_
          exact ih (x1 ||| (1 <<< (x2 &&& 31))) (x2 + 1) _ _ _ r h hW (lv_sub hl [2, 1, 0] rfl) kk
  obtain ⟨q1, hq2, h⟩ := bd_of h
  refine hL4 n 0 0  _ _ _ q1 hq2 hW (lv_sub hl [2, 1, 0] rfl) (fun H locs ls hW hl => ?_)
  refine lv_iload_n hx hb dX4_outBits_33 rfl (lv_at hl 1 rfl) ?_
  obtain rfl := Option.some.inj h
  exact wd_iret hA hQ hC hr hk hW dX4_outBits_34
def m_X4_take (ib ab : Nat) (S : St) (p0 : Int32) (p1 : Int32) : Option (St) :=
  if 3 ≤ (S.1 (ib + 2)) then (some S) else (if (S.1 (ib + 5)) < 54 then (ck p0 6 (ck p0 7 (ck ((S.1 (ib + 5)) * 4) 216 (nm (sA S (ab + 8) ((S.1 (ib + 5)) * 4).toNatClampNeg p0) (fun S6 => ck (((S6.1 (ib + 5)) * 4) + 1) 216 (nm (sA S6 (ab + 8) (((S6.1 (ib + 5)) * 4) + 1).toNatClampNeg (S6.1 (ib + 2))) (fun S9 => ck (((S9.1 (ib + 5)) * 4) + 2) 216 (nm (sA S9 (ab + 8) (((S9.1 (ib + 5)) * 4) + 2).toNatClampNeg (S.2.1 (ab + 1) p0.toNatClampNeg)) (fun S12 => ((if p1 = 0 then (some 0) else (some 1) : Option (Int32))).bind (fun q15 => ck (((S12.1 (ib + 5)) * 4) + 3) 216 (nm (sA S12 (ab + 8) (((S12.1 (ib + 5)) * 4) + 3).toNatClampNeg q15) (fun S18 => nm (sI S18 (ib + 5) ((S18.1 (ib + 5)) + 1)) (fun S20 => ck p0 6 (nm (sA S20 (ab + 2) p0.toNatClampNeg 1) (fun S23 => nm (sI S23 (ib + 4) (mx (S23.1 (ib + 4)) (S.2.1 (ab + 1) p0.toNatClampNeg))) (fun S25 => ((if p1 = 0 then (ck p0 6 (ck p0 6 (nm (sA S25 (ab + 6) p0.toNatClampNeg ((S25.2.1 (ab + 6) p0.toNatClampNeg) + 1)) (fun S43 => ck p0 6 (nm (sA S43 (ab + 7) p0.toNatClampNeg (S.2.1 (ab + 1) p0.toNatClampNeg)) (fun S46 => ck (((S46.1 (ib + 2)) * 3) + 2) 9 (nm ((S.2.1 (ab + 1) p0.toNatClampNeg) + (S46.2.1 (6 + 3 * p0.toNatClampNeg) (((S46.1 (ib + 2)) * 3) + 2).toNatClampNeg)) (fun v49 => some (S46, v49))))))))) else (nm (sI S25 (ib + 6) ((S25.1 (ib + 6)) + 1)) (fun S51 => ck ((p0 * 3) + (S51.1 (ib + 2))) 18 (ck ((p0 * 3) + (S51.1 (ib + 2))) 18 (nm (sA S51 (ab + 5) ((p0 * 3) + (S51.1 (ib + 2))).toNatClampNeg (mx (S51.2.1 (ab + 5) ((p0 * 3) + (S51.1 (ib + 2))).toNatClampNeg) (S.2.1 (ab + 1) p0.toNatClampNeg))) (fun S55 => ck p0 6 (nm (sA S55 (ab + 7) p0.toNatClampNeg ((S.2.1 (ab + 1) p0.toNatClampNeg) + 1)) (fun S58 => ck (((S58.1 (ib + 2)) * 3) + 1) 9 (nm ((S.2.1 (ab + 1) p0.toNatClampNeg) + (S58.2.1 (6 + 3 * p0.toNatClampNeg) (((S58.1 (ib + 2)) * 3) + 1).toNatClampNeg)) (fun v61 => some (S58, v61)))))))))) : Option (St × Int32))).bind (fun q28 => if (q28.1.1 (ib + 3)) = 2 then (ck p0 6 (nm (sA q28.1 (ab + 1) p0.toNatClampNeg 0) (fun S32 => some S32))) else (if q28.2 ≤ 40 then (ck p0 6 (nm (sA q28.1 (ab + 1) p0.toNatClampNeg q28.2) (fun S36 => some S36))) else (ck p0 6 (nm (sA q28.1 (ab + 1) p0.toNatClampNeg 0) (fun S39 => some S39))))))))))))))))))))) else (some S))
set_option maxHeartbeats 4000000 in
set_option maxRecDepth 100000 in
theorem c_X4_takeM (l : Launch) (D : va_G) (cy : Nat → ClassId) (ad : Nat → Nat) (X : va_W) (S : St) (p0 : Int32) (p1 : Int32) (r : (St)) (h : m_X4_take 30 25 S p0 p1 = some r) : CT l yX4_take (wu yX4_take cX4_take 6 none) 1 D cy [.ref (ad 25), .int p0, .int p1] (wC ad cy S ++ X) (none) (wC ad cy r ++ X) := by
  refine CT.mk (cc := cX4_take) (maxL := 6) (ret := none) (own := RX4) (by decide) rfl rfl (Nat.le_of_ble_eq_true rfl) ?_
  intro p e s m args below meth c ls A Q hA hQ hC hr hk hW hl
  have hx := hC.1
  have hb := hC.2.1
  have hown := hC.2.2.2.1
  have hts := hC.2.2.2.2
  have hl : lv_has ls 6 [(0, .ref (ad 25)), (1, .int p0), (2, .int p1)] := hl
  have f18 := hts _ (wu_in w_3_16)
  have i4 := (fun w h => wu_in (inc_4 w h) : ∀ w ∈ u_ws RX4 TX4 16, w ∈ (wu yX4_take cX4_take 6 none))
  have f53 := hts _ (wu_in w_4_4)
  have f27 := hts _ (wu_in w_3_19)
  have f59 := hts _ (wu_in w_4_6)
  have f66 := hts _ (wu_in w_9_2)
  have i3 := (fun w h => wu_in (inc_3 w h) : ∀ w ∈ u_ws RX3 TX3 4, w ∈ (wu yX4_take cX4_take 6 none))
  have f50 := hts _ (wu_in w_4_3)
  have f31 := hts _ (wu_in w_3_21)
  have f24 := hts _ (wu_in w_3_18)
  have ml93 := hts _ (wu_in w_16_19)
  have msmax := hts _ (wu_in w_15_13)
  have mi := hts _ (wu_in w_15_14)
  have mcmax := hts _ (wu_in w_15_15)
  have f21 := hts _ (wu_in w_3_17)
  have f44 := hts _ (wu_in w_4_1)
  have f47 := hts _ (wu_in w_4_2)
  have f56 := hts _ (wu_in w_4_5)
  have f41 := hts _ (wu_in w_4_0)
  unfold m_X4_take at h
  refine lv_aload_n hx hb dX4_take_0 rfl (lv_at hl 0 rfl) ?_
  refine wd_get hC i4 hW 25 wC_c25 rfl 3 (Nat.le_of_ble_eq_true rfl) f18 rfl rfl dX4_take_1 ?_
  refine lv_iconst (v := 3) hx hb dX4_take_4 (by decide) ?_
  refine lv_icmp_ge (tgt := 17) hx hb dX4_take_5 (by decide) (fun c1 => ?_) (fun c1 => ?_)
  · replace h := ite_t h c1
    obtain rfl := Option.some.inj h
    exact wd_vret hA hQ hC hr hk hW dX4_take_17
  · replace h := ite_f h c1
    refine lv_aload_n hx hb dX4_take_8 rfl (lv_at hl 0 rfl) ?_
    refine wd_get hC i4 hW 25 wC_c25 rfl 14 (Nat.le_of_ble_eq_true rfl) f53 rfl rfl dX4_take_9 ?_
    refine lv_bipush (v := 54) hx hb dX4_take_12 (by decide) ?_
    refine lv_icmp_lt (tgt := 18) hx hb dX4_take_14 (by decide) (fun c2 => ?_) (fun c2 => ?_)
    · replace h := ite_t h c2
      refine lv_aload_n hx hb dX4_take_18 rfl (lv_at hl 0 rfl) ?_
      refine wd_get hC i4 hW 25 wC_c25 rfl 6 (Nat.le_of_ble_eq_true rfl) f27 rfl rfl dX4_take_19 ?_
      refine lv_iload_n hx hb dX4_take_22 rfl (lv_at hl 1 rfl) ?_
      obtain ⟨hi3, h⟩ := ck_of h
      refine wd_iald hC hW 26 wC_c26 hi3 dX4_take_23 ?_
      refine lv_istore_n (lv' := [(3, .int (S.2.1 26 p0.toNatClampNeg)), (0, .ref (ad 25)), (1, .int p0), (2, .int p1)]) hx hb dX4_take_24 rfl hl (by decide) rfl (fun ls hl => ?_)
      refine lv_aload_n hx hb dX4_take_25 rfl (lv_at hl 1 rfl) ?_
      refine wd_get hC i4 hW 25 wC_c25 rfl 0 (Nat.le_of_ble_eq_true rfl) f59 rfl rfl dX4_take_26 ?_
      refine lv_iload_n hx hb dX4_take_29 rfl (lv_at hl 2 rfl) ?_
      obtain ⟨hi4, h⟩ := ck_of h
      refine wd_aldq hC hW 3 wC_c3 hi4 rfl dX4_take_30 ?_
      refine wd_get hC i3 hW (4 + 3 * p0.toNatClampNeg) (wC_L (in_lt hi4)) rfl 3 (Nat.le_of_ble_eq_true rfl) f66 rfl rfl dX4_take_31 ?_
      refine lv_astore (lv' := [(4, .ref (ad (6 + 3 * p0.toNatClampNeg))), (3, .int (S.2.1 26 p0.toNatClampNeg)), (0, .ref (ad 25)), (1, .int p0), (2, .int p1)]) hx hb dX4_take_34 hl (by decide) rfl (fun ls hl => ?_)
      refine lv_aload_n hx hb dX4_take_36 rfl (lv_at hl 2 rfl) ?_
      refine wd_get hC i4 hW 25 wC_c25 rfl 13 (Nat.le_of_ble_eq_true rfl) f50 rfl rfl dX4_take_37 ?_
      refine lv_aload_n hx hb dX4_take_40 rfl (lv_at hl 2 rfl) ?_
      refine wd_get hC i4 hW 25 wC_c25 rfl 14 (Nat.le_of_ble_eq_true rfl) f53 rfl rfl dX4_take_41 ?_
      refine lv_iconst (v := 4) hx hb dX4_take_44 (by decide) ?_
      refine lv_imul hx hb dX4_take_45 ?_
      refine lv_iload_n hx hb dX4_take_46 rfl (lv_at hl 3 rfl) ?_
      obtain ⟨hi5, h⟩ := ck_of h
      refine wd_iast hC hW 33 wC_c33 hi5 wC_t33 dX4_take_47 (fun H locs hW => ?_)
      obtain ⟨S6, e7, h⟩ := nm_of h
      replace hW := wq_S e7 hW
      refine lv_aload_n hx hb dX4_take_48 rfl (lv_at hl 2 rfl) ?_
      refine wd_get hC i4 hW 25 wC_c25 rfl 13 (Nat.le_of_ble_eq_true rfl) f50 rfl rfl dX4_take_49 ?_
      refine lv_aload_n hx hb dX4_take_52 rfl (lv_at hl 2 rfl) ?_
      refine wd_get hC i4 hW 25 wC_c25 rfl 14 (Nat.le_of_ble_eq_true rfl) f53 rfl rfl dX4_take_53 ?_
      refine lv_iconst (v := 4) hx hb dX4_take_56 (by decide) ?_
      refine lv_imul hx hb dX4_take_57 ?_
      refine lv_iconst (v := 1) hx hb dX4_take_58 (by decide) ?_
      refine lv_iadd hx hb dX4_take_59 ?_
      refine lv_aload_n hx hb dX4_take_60 rfl (lv_at hl 2 rfl) ?_
      refine wd_get hC i4 hW 25 wC_c25 rfl 3 (Nat.le_of_ble_eq_true rfl) f18 rfl rfl dX4_take_61 ?_
      obtain ⟨hi8, h⟩ := ck_of h
      refine wd_iast hC hW 33 wC_c33 hi8 wC_t33 dX4_take_64 (fun H locs hW => ?_)
      obtain ⟨S9, e10, h⟩ := nm_of h
      replace hW := wq_S e10 hW
      refine lv_aload_n hx hb dX4_take_65 rfl (lv_at hl 2 rfl) ?_
      refine wd_get hC i4 hW 25 wC_c25 rfl 13 (Nat.le_of_ble_eq_true rfl) f50 rfl rfl dX4_take_66 ?_
      refine lv_aload_n hx hb dX4_take_69 rfl (lv_at hl 2 rfl) ?_
      refine wd_get hC i4 hW 25 wC_c25 rfl 14 (Nat.le_of_ble_eq_true rfl) f53 rfl rfl dX4_take_70 ?_
      refine lv_iconst (v := 4) hx hb dX4_take_73 (by decide) ?_
      refine lv_imul hx hb dX4_take_74 ?_
      refine lv_iconst (v := 2) hx hb dX4_take_75 (by decide) ?_
      refine lv_iadd hx hb dX4_take_76 ?_
      refine lv_iload_n hx hb dX4_take_77 rfl (lv_at hl 1 rfl) ?_
      obtain ⟨hi11, h⟩ := ck_of h
      refine wd_iast hC hW 33 wC_c33 hi11 wC_t33 dX4_take_78 (fun H locs hW => ?_)
      obtain ⟨S12, e13, h⟩ := nm_of h
      replace hW := wq_S e13 hW
      refine lv_aload_n hx hb dX4_take_79 rfl (lv_at hl 2 rfl) ?_
      refine wd_get hC i4 hW 25 wC_c25 rfl 13 (Nat.le_of_ble_eq_true rfl) f50 rfl rfl dX4_take_80 ?_
      refine lv_aload_n hx hb dX4_take_83 rfl (lv_at hl 2 rfl) ?_
      refine wd_get hC i4 hW 25 wC_c25 rfl 14 (Nat.le_of_ble_eq_true rfl) f53 rfl rfl dX4_take_84 ?_
      refine lv_iconst (v := 4) hx hb dX4_take_87 (by decide) ?_
      refine lv_imul hx hb dX4_take_88 ?_
      refine lv_iconst (v := 3) hx hb dX4_take_89 (by decide) ?_
      refine lv_iadd hx hb dX4_take_90 ?_
      refine lv_iload_n hx hb dX4_take_91 rfl (lv_at hl 4 rfl) ?_
      obtain ⟨q15, hq16, h⟩ := bd_of h
      have hJ100 : ∀ (H : Heap) (locs : List Loc) (ls : Array Slot), Wd D cy A s (wC ad cy S12 ++ X) H locs → lv_has ls 6 [(4, .ref (ad (6 + 3 * p0.toNatClampNeg))), (3, .int (S.2.1 26 p0.toNatClampNeg)), (0, .ref (ad 25)), (1, .int p0), (2, .int p1)] → W p l e (RM 1) s m args below meth c H locs 0 0 Q (F0 m 100 ls [.int q15, .int (((S12.1 35) * 4) + 3), .ref (ad 33)]) := by
        intro H locs ls hW hl
        obtain ⟨hi17, h⟩ := ck_of h
        refine wd_iast hC hW 33 wC_c33 hi17 wC_t33 dX4_take_100 (fun H locs hW => ?_)
        obtain ⟨S18, e19, h⟩ := nm_of h
        replace hW := wq_S e19 hW
        refine lv_aload_n hx hb dX4_take_101 rfl (lv_at hl 2 rfl) ?_
        refine lv_dup hx hb dX4_take_102 rfl ?_
        refine wd_get hC i4 hW 25 wC_c25 rfl 14 (Nat.le_of_ble_eq_true rfl) f53 rfl rfl dX4_take_103 ?_
        refine lv_iconst (v := 1) hx hb dX4_take_106 (by decide) ?_
        refine lv_iadd hx hb dX4_take_107 ?_
        refine wd_put hC i4 tyX4_ok nmX4 hW 25 wC_c25 rfl 14 (Nat.le_of_ble_eq_true rfl) f53 rfl rfl rfl rfl (Nat.le_of_ble_eq_true rfl) wC_s25_14 dX4_take_108 (fun H locs hW => ?_)
        obtain ⟨S20, e21, h⟩ := nm_of h
        replace hW := wq_S e21 hW
        refine lv_aload_n hx hb dX4_take_111 rfl (lv_at hl 2 rfl) ?_
        refine wd_get hC i4 hW 25 wC_c25 rfl 7 (Nat.le_of_ble_eq_true rfl) f31 rfl rfl dX4_take_112 ?_
        refine lv_iload_n hx hb dX4_take_115 rfl (lv_at hl 3 rfl) ?_
        refine lv_iconst (v := 1) hx hb dX4_take_116 (by decide) ?_
        obtain ⟨hi22, h⟩ := ck_of h
        refine wd_zast hC hW 27 wC_c27 hi22 rfl wC_t27 dX4_take_117 (fun H locs hW => ?_)
        obtain ⟨S23, e24, h⟩ := nm_of h
        replace hW := wq_S e24 hW
        refine lv_aload_n hx hb dX4_take_118 rfl (lv_at hl 2 rfl) ?_
        refine lv_aload_n hx hb dX4_take_119 rfl (lv_at hl 2 rfl) ?_
        refine wd_get hC i4 hW 25 wC_c25 rfl 5 (Nat.le_of_ble_eq_true rfl) f24 rfl rfl dX4_take_120 ?_
        refine lv_iload_n hx hb dX4_take_123 rfl (lv_at hl 1 rfl) ?_
        refine wd_max hC hl.1 ml93 msmax mi mcmax (Nat.le_of_ble_eq_true rfl) (Nat.le_of_ble_eq_true rfl) (Nat.zero_le _) (Nat.zero_le _) dX4_take_124 ?_
        refine wd_put hC i4 tyX4_ok nmX4 hW 25 wC_c25 rfl 5 (Nat.le_of_ble_eq_true rfl) f24 rfl rfl rfl rfl (Nat.le_of_ble_eq_true rfl) wC_s25_5 dX4_take_127 (fun H locs hW => ?_)
        obtain ⟨S25, e26, h⟩ := nm_of h
        replace hW := wq_S e26 hW
        refine lv_iload_n hx hb dX4_take_130 rfl (lv_at hl 1 rfl) ?_
        refine lv_istore (lv' := [(5, .int (S.2.1 26 p0.toNatClampNeg)), (4, .ref (ad (6 + 3 * p0.toNatClampNeg))), (3, .int (S.2.1 26 p0.toNatClampNeg)), (0, .ref (ad 25)), (1, .int p0), (2, .int p1)]) hx hb dX4_take_131 hl (by decide) rfl (fun ls hl => ?_)
        refine lv_iload_n hx hb dX4_take_133 rfl (lv_at hl 5 rfl) ?_
        obtain ⟨q28, hq29, h⟩ := bd_of h
        have hJ238 : ∀ (H : Heap) (locs : List Loc) (ls : Array Slot), Wd D cy A s (wC ad cy q28.1 ++ X) H locs → lv_has ls 6 [(5, .int q28.2), (4, .ref (ad (6 + 3 * p0.toNatClampNeg))), (3, .int (S.2.1 26 p0.toNatClampNeg)), (0, .ref (ad 25)), (1, .int p0), (2, .int p1)] → W p l e (RM 1) s m args below meth c H locs 0 0 Q (F0 m 238 ls []) := by
          intro H locs ls hW hl
          refine lv_aload_n hx hb dX4_take_238 rfl (lv_at hl 3 rfl) ?_
          refine wd_get hC i4 hW 25 wC_c25 rfl 6 (Nat.le_of_ble_eq_true rfl) f27 rfl rfl dX4_take_239 ?_
          refine lv_iload_n hx hb dX4_take_242 rfl (lv_at hl 4 rfl) ?_
          refine lv_aload_n hx hb dX4_take_243 rfl (lv_at hl 3 rfl) ?_
          refine wd_get hC i4 hW 25 wC_c25 rfl 4 (Nat.le_of_ble_eq_true rfl) f21 rfl rfl dX4_take_244 ?_
          refine lv_iconst (v := 2) hx hb dX4_take_247 (by decide) ?_
          refine lv_icmp_eq (tgt := 258) hx hb dX4_take_248 (by decide) (fun c30 => ?_) (fun c30 => ?_)
          · replace h := ite_t h c30
            refine lv_iconst (v := 0) hx hb dX4_take_258 (by decide) ?_
            refine lv_goto (tgt := 264) hx hb dX4_take_259 (by decide) ?_
            obtain ⟨hi31, h⟩ := ck_of h
            refine wd_iast hC hW 26 wC_c26 hi31 wC_t26 dX4_take_264 (fun H locs hW => ?_)
            obtain ⟨S32, e33, h⟩ := nm_of h
            replace hW := wq_S e33 hW
            obtain rfl := Option.some.inj h
            exact wd_vret hA hQ hC hr hk hW dX4_take_265
          · replace h := ite_f h c30
            refine lv_iload hx hb dX4_take_251 (lv_at hl 0 rfl) ?_
            refine lv_bipush (v := 40) hx hb dX4_take_253 (by decide) ?_
            refine lv_icmp_le (tgt := 262) hx hb dX4_take_255 (by decide) (fun c34 => ?_) (fun c34 => ?_)
            · replace h := ite_t h c34
              refine lv_iload hx hb dX4_take_262 (lv_at hl 0 rfl) ?_
              obtain ⟨hi35, h⟩ := ck_of h
              refine wd_iast hC hW 26 wC_c26 hi35 wC_t26 dX4_take_264 (fun H locs hW => ?_)
              obtain ⟨S36, e37, h⟩ := nm_of h
              replace hW := wq_S e37 hW
              obtain rfl := Option.some.inj h
              exact wd_vret hA hQ hC hr hk hW dX4_take_265
            · replace h := ite_f h c34
              refine lv_iconst (v := 0) hx hb dX4_take_258 (by decide) ?_
              refine lv_goto (tgt := 264) hx hb dX4_take_259 (by decide) ?_
              obtain ⟨hi38, h⟩ := ck_of h
              refine wd_iast hC hW 26 wC_c26 hi38 wC_t26 dX4_take_264 (fun H locs hW => ?_)
              obtain ⟨S39, e40, h⟩ := nm_of h
              replace hW := wq_S e40 hW
              obtain rfl := Option.some.inj h
              exact wd_vret hA hQ hC hr hk hW dX4_take_265
        replace h := hq29
        refine lv_if_eq (tgt := 205) hx hb dX4_take_134 (by decide) (fun c27 => ?_) (fun c27 => ?_)
        · replace h := ite_t h c27
          refine lv_aload_n hx hb dX4_take_205 rfl (lv_at hl 3 rfl) ?_
          refine wd_get hC i4 hW 25 wC_c25 rfl 11 (Nat.le_of_ble_eq_true rfl) f44 rfl rfl dX4_take_206 ?_
          refine lv_iload_n hx hb dX4_take_209 rfl (lv_at hl 4 rfl) ?_
          refine lv_dup2_11 hx hb dX4_take_210 rfl rfl ?_
          obtain ⟨hi41, h⟩ := ck_of h
          refine wd_iald hC hW 31 wC_c31 hi41 dX4_take_211 ?_
          refine lv_iconst (v := 1) hx hb dX4_take_212 (by decide) ?_
          refine lv_iadd hx hb dX4_take_213 ?_
          obtain ⟨hi42, h⟩ := ck_of h
          refine wd_iast hC hW 31 wC_c31 hi42 wC_t31 dX4_take_214 (fun H locs hW => ?_)
          obtain ⟨S43, e44, h⟩ := nm_of h
          replace hW := wq_S e44 hW
          refine lv_aload_n hx hb dX4_take_215 rfl (lv_at hl 3 rfl) ?_
          refine wd_get hC i4 hW 25 wC_c25 rfl 12 (Nat.le_of_ble_eq_true rfl) f47 rfl rfl dX4_take_216 ?_
          refine lv_iload_n hx hb dX4_take_219 rfl (lv_at hl 4 rfl) ?_
          refine lv_iload_n hx hb dX4_take_220 rfl (lv_at hl 2 rfl) ?_
          obtain ⟨hi45, h⟩ := ck_of h
          refine wd_iast hC hW 32 wC_c32 hi45 wC_t32 dX4_take_221 (fun H locs hW => ?_)
          obtain ⟨S46, e47, h⟩ := nm_of h
          replace hW := wq_S e47 hW
          refine lv_iload hx hb dX4_take_222 (lv_at hl 0 rfl) ?_
          refine lv_aload hx hb dX4_take_224 (lv_at hl 1 rfl) ?_
          refine lv_aload_n hx hb dX4_take_226 rfl (lv_at hl 3 rfl) ?_
          refine wd_get hC i4 hW 25 wC_c25 rfl 3 (Nat.le_of_ble_eq_true rfl) f18 rfl rfl dX4_take_227 ?_
          refine lv_iconst (v := 3) hx hb dX4_take_230 (by decide) ?_
          refine lv_imul hx hb dX4_take_231 ?_
          refine lv_iconst (v := 2) hx hb dX4_take_232 (by decide) ?_
          refine lv_iadd hx hb dX4_take_233 ?_
          obtain ⟨hi48, h⟩ := ck_of h
          refine wd_iald hC hW (6 + 3 * p0.toNatClampNeg) (wC_Lp (in_lt hi4)) hi48 dX4_take_234 ?_
          refine lv_iadd hx hb dX4_take_235 ?_
          refine lv_topi (fun v49 ev50 => ?_)
          replace h := nm_eq h ev50
          refine lv_istore (lv' := [(5, .int v49), (4, .ref (ad (6 + 3 * p0.toNatClampNeg))), (3, .int (S.2.1 26 p0.toNatClampNeg)), (0, .ref (ad 25)), (1, .int p0), (2, .int p1)]) hx hb dX4_take_236 hl (by decide) rfl (fun ls hl => ?_)
          obtain rfl := Option.some.inj h
          exact hJ238 _ _ _ hW (lv_sub hl [0, 1, 2, 3, 4, 5] rfl)
        · replace h := ite_f h c27
          refine lv_aload_n hx hb dX4_take_137 rfl (lv_at hl 3 rfl) ?_
          refine lv_dup hx hb dX4_take_138 rfl ?_
          refine wd_get hC i4 hW 25 wC_c25 rfl 15 (Nat.le_of_ble_eq_true rfl) f56 rfl rfl dX4_take_139 ?_
          refine lv_iconst (v := 1) hx hb dX4_take_142 (by decide) ?_
          refine lv_iadd hx hb dX4_take_143 ?_
          refine wd_put hC i4 tyX4_ok nmX4 hW 25 wC_c25 rfl 15 (Nat.le_of_ble_eq_true rfl) f56 rfl rfl rfl rfl (Nat.le_of_ble_eq_true rfl) wC_s25_15 dX4_take_144 (fun H locs hW => ?_)
          obtain ⟨S51, e52, h⟩ := nm_of h
          replace hW := wq_S e52 hW
          refine lv_aload_n hx hb dX4_take_147 rfl (lv_at hl 3 rfl) ?_
          refine wd_get hC i4 hW 25 wC_c25 rfl 10 (Nat.le_of_ble_eq_true rfl) f41 rfl rfl dX4_take_148 ?_
          refine lv_iload_n hx hb dX4_take_151 rfl (lv_at hl 4 rfl) ?_
          refine lv_iconst (v := 3) hx hb dX4_take_152 (by decide) ?_
          refine lv_imul hx hb dX4_take_153 ?_
          refine lv_aload_n hx hb dX4_take_154 rfl (lv_at hl 3 rfl) ?_
          refine wd_get hC i4 hW 25 wC_c25 rfl 3 (Nat.le_of_ble_eq_true rfl) f18 rfl rfl dX4_take_155 ?_
          refine lv_iadd hx hb dX4_take_158 ?_
          refine lv_aload_n hx hb dX4_take_159 rfl (lv_at hl 3 rfl) ?_
          refine wd_get hC i4 hW 25 wC_c25 rfl 10 (Nat.le_of_ble_eq_true rfl) f41 rfl rfl dX4_take_160 ?_
          refine lv_iload_n hx hb dX4_take_163 rfl (lv_at hl 4 rfl) ?_
          refine lv_iconst (v := 3) hx hb dX4_take_164 (by decide) ?_
          refine lv_imul hx hb dX4_take_165 ?_
          refine lv_aload_n hx hb dX4_take_166 rfl (lv_at hl 3 rfl) ?_
          refine wd_get hC i4 hW 25 wC_c25 rfl 3 (Nat.le_of_ble_eq_true rfl) f18 rfl rfl dX4_take_167 ?_
          refine lv_iadd hx hb dX4_take_170 ?_
          obtain ⟨hi53, h⟩ := ck_of h
          refine wd_iald hC hW 30 wC_c30 hi53 dX4_take_171 ?_
          refine lv_iload_n hx hb dX4_take_172 rfl (lv_at hl 2 rfl) ?_
          refine wd_max hC hl.1 ml93 msmax mi mcmax (Nat.le_of_ble_eq_true rfl) (Nat.le_of_ble_eq_true rfl) (Nat.zero_le _) (Nat.zero_le _) dX4_take_173 ?_
          obtain ⟨hi54, h⟩ := ck_of h
          refine wd_iast hC hW 30 wC_c30 hi54 wC_t30 dX4_take_176 (fun H locs hW => ?_)
          obtain ⟨S55, e56, h⟩ := nm_of h
          replace hW := wq_S e56 hW
          refine lv_aload_n hx hb dX4_take_177 rfl (lv_at hl 3 rfl) ?_
          refine wd_get hC i4 hW 25 wC_c25 rfl 12 (Nat.le_of_ble_eq_true rfl) f47 rfl rfl dX4_take_178 ?_
          refine lv_iload_n hx hb dX4_take_181 rfl (lv_at hl 4 rfl) ?_
          refine lv_iload_n hx hb dX4_take_182 rfl (lv_at hl 2 rfl) ?_
          refine lv_iconst (v := 1) hx hb dX4_take_183 (by decide) ?_
          refine lv_iadd hx hb dX4_take_184 ?_
          obtain ⟨hi57, h⟩ := ck_of h
          refine wd_iast hC hW 32 wC_c32 hi57 wC_t32 dX4_take_185 (fun H locs hW => ?_)
          obtain ⟨S58, e59, h⟩ := nm_of h
          replace hW := wq_S e59 hW
          refine lv_iload hx hb dX4_take_186 (lv_at hl 0 rfl) ?_
          refine lv_aload hx hb dX4_take_188 (lv_at hl 1 rfl) ?_
          refine lv_aload_n hx hb dX4_take_190 rfl (lv_at hl 3 rfl) ?_
          refine wd_get hC i4 hW 25 wC_c25 rfl 3 (Nat.le_of_ble_eq_true rfl) f18 rfl rfl dX4_take_191 ?_
          refine lv_iconst (v := 3) hx hb dX4_take_194 (by decide) ?_
          refine lv_imul hx hb dX4_take_195 ?_
          refine lv_iconst (v := 1) hx hb dX4_take_196 (by decide) ?_
          refine lv_iadd hx hb dX4_take_197 ?_
          obtain ⟨hi60, h⟩ := ck_of h
          refine wd_iald hC hW (6 + 3 * p0.toNatClampNeg) (wC_Lp (in_lt hi4)) hi60 dX4_take_198 ?_
          refine lv_iadd hx hb dX4_take_199 ?_
          refine lv_topi (fun v61 ev62 => ?_)
          replace h := nm_eq h ev62
          refine lv_istore (lv' := [(5, .int v61), (4, .ref (ad (6 + 3 * p0.toNatClampNeg))), (3, .int (S.2.1 26 p0.toNatClampNeg)), (0, .ref (ad 25)), (1, .int p0), (2, .int p1)]) hx hb dX4_take_200 hl (by decide) rfl (fun ls hl => ?_)
          refine lv_goto (tgt := 238) hx hb dX4_take_202 (by decide) ?_
          obtain rfl := Option.some.inj h
          exact hJ238 _ _ _ hW (lv_sub hl [0, 1, 2, 3, 4, 5] rfl)
      replace h := hq16
      refine lv_if_eq (tgt := 99) hx hb dX4_take_92 (by decide) (fun c14 => ?_) (fun c14 => ?_)
      · replace h := ite_t h c14
        refine lv_iconst (v := 0) hx hb dX4_take_99 (by decide) ?_
        obtain rfl := Option.some.inj h
        exact hJ100 _ _ _ hW (lv_sub hl [0, 1, 2, 3, 4] rfl)
      · replace h := ite_f h c14
        refine lv_iconst (v := 1) hx hb dX4_take_95 (by decide) ?_
        refine lv_goto (tgt := 100) hx hb dX4_take_96 (by decide) ?_
        obtain rfl := Option.some.inj h
        exact hJ100 _ _ _ hW (lv_sub hl [0, 1, 2, 3, 4] rfl)
    · replace h := ite_f h c2
      obtain rfl := Option.some.inj h
      exact wd_vret hA hQ hC hr hk hW dX4_take_17
set_option maxHeartbeats 4000000 in
set_option maxRecDepth 100000 in
theorem c_X4_takeD (l : Launch) (D : va_G) (cy : Nat → ClassId) (ad : Nat → Nat) (X : va_W) (S : St) (p0 : Int32) (p1 : Int32) (r : (St)) (h : m_X4_take 40 34 S p0 p1 = some r) : CT l yX4_take (wu yX4_take cX4_take 6 none) 1 D cy [.ref (ad 34), .int p0, .int p1] (wC ad cy S ++ X) (none) (wC ad cy r ++ X) := by
  refine CT.mk (cc := cX4_take) (maxL := 6) (ret := none) (own := RX4) (by decide) rfl rfl (Nat.le_of_ble_eq_true rfl) ?_
  intro p e s m args below meth c ls A Q hA hQ hC hr hk hW hl
  have hx := hC.1
  have hb := hC.2.1
  have hown := hC.2.2.2.1
  have hts := hC.2.2.2.2
  have hl : lv_has ls 6 [(0, .ref (ad 34)), (1, .int p0), (2, .int p1)] := hl
  have f18 := hts _ (wu_in w_3_16)
  have i4 := (fun w h => wu_in (inc_4 w h) : ∀ w ∈ u_ws RX4 TX4 16, w ∈ (wu yX4_take cX4_take 6 none))
  have f53 := hts _ (wu_in w_4_4)
  have f27 := hts _ (wu_in w_3_19)
  have f59 := hts _ (wu_in w_4_6)
  have f66 := hts _ (wu_in w_9_2)
  have i3 := (fun w h => wu_in (inc_3 w h) : ∀ w ∈ u_ws RX3 TX3 4, w ∈ (wu yX4_take cX4_take 6 none))
  have f50 := hts _ (wu_in w_4_3)
  have f31 := hts _ (wu_in w_3_21)
  have f24 := hts _ (wu_in w_3_18)
  have ml93 := hts _ (wu_in w_16_19)
  have msmax := hts _ (wu_in w_15_13)
  have mi := hts _ (wu_in w_15_14)
  have mcmax := hts _ (wu_in w_15_15)
  have f21 := hts _ (wu_in w_3_17)
  have f44 := hts _ (wu_in w_4_1)
  have f47 := hts _ (wu_in w_4_2)
  have f56 := hts _ (wu_in w_4_5)
  have f41 := hts _ (wu_in w_4_0)
  unfold m_X4_take at h
  refine lv_aload_n hx hb dX4_take_0 rfl (lv_at hl 0 rfl) ?_
  refine wd_get hC i4 hW 34 wC_c34 rfl 3 (Nat.le_of_ble_eq_true rfl) f18 rfl rfl dX4_take_1 ?_
  refine lv_iconst (v := 3) hx hb dX4_take_4 (by decide) ?_
  refine lv_icmp_ge (tgt := 17) hx hb dX4_take_5 (by decide) (fun c1 => ?_) (fun c1 => ?_)
  · replace h := ite_t h c1
    obtain rfl := Option.some.inj h
    exact wd_vret hA hQ hC hr hk hW dX4_take_17
  · replace h := ite_f h c1
    refine lv_aload_n hx hb dX4_take_8 rfl (lv_at hl 0 rfl) ?_
    refine wd_get hC i4 hW 34 wC_c34 rfl 14 (Nat.le_of_ble_eq_true rfl) f53 rfl rfl dX4_take_9 ?_
    refine lv_bipush (v := 54) hx hb dX4_take_12 (by decide) ?_
    refine lv_icmp_lt (tgt := 18) hx hb dX4_take_14 (by decide) (fun c2 => ?_) (fun c2 => ?_)
    · replace h := ite_t h c2
      refine lv_aload_n hx hb dX4_take_18 rfl (lv_at hl 0 rfl) ?_
      refine wd_get hC i4 hW 34 wC_c34 rfl 6 (Nat.le_of_ble_eq_true rfl) f27 rfl rfl dX4_take_19 ?_
      refine lv_iload_n hx hb dX4_take_22 rfl (lv_at hl 1 rfl) ?_
      obtain ⟨hi3, h⟩ := ck_of h
      refine wd_iald hC hW 35 wC_c35 hi3 dX4_take_23 ?_
      refine lv_istore_n (lv' := [(3, .int (S.2.1 35 p0.toNatClampNeg)), (0, .ref (ad 34)), (1, .int p0), (2, .int p1)]) hx hb dX4_take_24 rfl hl (by decide) rfl (fun ls hl => ?_)
      refine lv_aload_n hx hb dX4_take_25 rfl (lv_at hl 1 rfl) ?_
      refine wd_get hC i4 hW 34 wC_c34 rfl 0 (Nat.le_of_ble_eq_true rfl) f59 rfl rfl dX4_take_26 ?_
      refine lv_iload_n hx hb dX4_take_29 rfl (lv_at hl 2 rfl) ?_
      obtain ⟨hi4, h⟩ := ck_of h
      refine wd_aldq hC hW 3 wC_c3 hi4 rfl dX4_take_30 ?_
      refine wd_get hC i3 hW (4 + 3 * p0.toNatClampNeg) (wC_L (in_lt hi4)) rfl 3 (Nat.le_of_ble_eq_true rfl) f66 rfl rfl dX4_take_31 ?_
      refine lv_astore (lv' := [(4, .ref (ad (6 + 3 * p0.toNatClampNeg))), (3, .int (S.2.1 35 p0.toNatClampNeg)), (0, .ref (ad 34)), (1, .int p0), (2, .int p1)]) hx hb dX4_take_34 hl (by decide) rfl (fun ls hl => ?_)
      refine lv_aload_n hx hb dX4_take_36 rfl (lv_at hl 2 rfl) ?_
      refine wd_get hC i4 hW 34 wC_c34 rfl 13 (Nat.le_of_ble_eq_true rfl) f50 rfl rfl dX4_take_37 ?_
      refine lv_aload_n hx hb dX4_take_40 rfl (lv_at hl 2 rfl) ?_
      refine wd_get hC i4 hW 34 wC_c34 rfl 14 (Nat.le_of_ble_eq_true rfl) f53 rfl rfl dX4_take_41 ?_
      refine lv_iconst (v := 4) hx hb dX4_take_44 (by decide) ?_
      refine lv_imul hx hb dX4_take_45 ?_
      refine lv_iload_n hx hb dX4_take_46 rfl (lv_at hl 3 rfl) ?_
      obtain ⟨hi5, h⟩ := ck_of h
      refine wd_iast hC hW 42 wC_c42 hi5 wC_t42 dX4_take_47 (fun H locs hW => ?_)
      obtain ⟨S6, e7, h⟩ := nm_of h
      replace hW := wq_S e7 hW
      refine lv_aload_n hx hb dX4_take_48 rfl (lv_at hl 2 rfl) ?_
      refine wd_get hC i4 hW 34 wC_c34 rfl 13 (Nat.le_of_ble_eq_true rfl) f50 rfl rfl dX4_take_49 ?_
      refine lv_aload_n hx hb dX4_take_52 rfl (lv_at hl 2 rfl) ?_
      refine wd_get hC i4 hW 34 wC_c34 rfl 14 (Nat.le_of_ble_eq_true rfl) f53 rfl rfl dX4_take_53 ?_
      refine lv_iconst (v := 4) hx hb dX4_take_56 (by decide) ?_
      refine lv_imul hx hb dX4_take_57 ?_
      refine lv_iconst (v := 1) hx hb dX4_take_58 (by decide) ?_
      refine lv_iadd hx hb dX4_take_59 ?_
      refine lv_aload_n hx hb dX4_take_60 rfl (lv_at hl 2 rfl) ?_
      refine wd_get hC i4 hW 34 wC_c34 rfl 3 (Nat.le_of_ble_eq_true rfl) f18 rfl rfl dX4_take_61 ?_
      obtain ⟨hi8, h⟩ := ck_of h
      refine wd_iast hC hW 42 wC_c42 hi8 wC_t42 dX4_take_64 (fun H locs hW => ?_)
      obtain ⟨S9, e10, h⟩ := nm_of h
      replace hW := wq_S e10 hW
      refine lv_aload_n hx hb dX4_take_65 rfl (lv_at hl 2 rfl) ?_
      refine wd_get hC i4 hW 34 wC_c34 rfl 13 (Nat.le_of_ble_eq_true rfl) f50 rfl rfl dX4_take_66 ?_
      refine lv_aload_n hx hb dX4_take_69 rfl (lv_at hl 2 rfl) ?_
      refine wd_get hC i4 hW 34 wC_c34 rfl 14 (Nat.le_of_ble_eq_true rfl) f53 rfl rfl dX4_take_70 ?_
      refine lv_iconst (v := 4) hx hb dX4_take_73 (by decide) ?_
      refine lv_imul hx hb dX4_take_74 ?_
      refine lv_iconst (v := 2) hx hb dX4_take_75 (by decide) ?_
      refine lv_iadd hx hb dX4_take_76 ?_
      refine lv_iload_n hx hb dX4_take_77 rfl (lv_at hl 1 rfl) ?_
      obtain ⟨hi11, h⟩ := ck_of h
      refine wd_iast hC hW 42 wC_c42 hi11 wC_t42 dX4_take_78 (fun H locs hW => ?_)
      obtain ⟨S12, e13, h⟩ := nm_of h
      replace hW := wq_S e13 hW
      refine lv_aload_n hx hb dX4_take_79 rfl (lv_at hl 2 rfl) ?_
      refine wd_get hC i4 hW 34 wC_c34 rfl 13 (Nat.le_of_ble_eq_true rfl) f50 rfl rfl dX4_take_80 ?_
      refine lv_aload_n hx hb dX4_take_83 rfl (lv_at hl 2 rfl) ?_
      refine wd_get hC i4 hW 34 wC_c34 rfl 14 (Nat.le_of_ble_eq_true rfl) f53 rfl rfl dX4_take_84 ?_
      refine lv_iconst (v := 4) hx hb dX4_take_87 (by decide) ?_
      refine lv_imul hx hb dX4_take_88 ?_
      refine lv_iconst (v := 3) hx hb dX4_take_89 (by decide) ?_
      refine lv_iadd hx hb dX4_take_90 ?_
      refine lv_iload_n hx hb dX4_take_91 rfl (lv_at hl 4 rfl) ?_
      obtain ⟨q15, hq16, h⟩ := bd_of h
      have hJ100 : ∀ (H : Heap) (locs : List Loc) (ls : Array Slot), Wd D cy A s (wC ad cy S12 ++ X) H locs → lv_has ls 6 [(4, .ref (ad (6 + 3 * p0.toNatClampNeg))), (3, .int (S.2.1 35 p0.toNatClampNeg)), (0, .ref (ad 34)), (1, .int p0), (2, .int p1)] → W p l e (RM 1) s m args below meth c H locs 0 0 Q (F0 m 100 ls [.int q15, .int (((S12.1 45) * 4) + 3), .ref (ad 42)]) := by
        intro H locs ls hW hl
        obtain ⟨hi17, h⟩ := ck_of h
        refine wd_iast hC hW 42 wC_c42 hi17 wC_t42 dX4_take_100 (fun H locs hW => ?_)
        obtain ⟨S18, e19, h⟩ := nm_of h
        replace hW := wq_S e19 hW
        refine lv_aload_n hx hb dX4_take_101 rfl (lv_at hl 2 rfl) ?_
        refine lv_dup hx hb dX4_take_102 rfl ?_
        refine wd_get hC i4 hW 34 wC_c34 rfl 14 (Nat.le_of_ble_eq_true rfl) f53 rfl rfl dX4_take_103 ?_
        refine lv_iconst (v := 1) hx hb dX4_take_106 (by decide) ?_
        refine lv_iadd hx hb dX4_take_107 ?_
        refine wd_put hC i4 tyX4_ok nmX4 hW 34 wC_c34 rfl 14 (Nat.le_of_ble_eq_true rfl) f53 rfl rfl rfl rfl (Nat.le_of_ble_eq_true rfl) wC_s34_14 dX4_take_108 (fun H locs hW => ?_)
        obtain ⟨S20, e21, h⟩ := nm_of h
        replace hW := wq_S e21 hW
        refine lv_aload_n hx hb dX4_take_111 rfl (lv_at hl 2 rfl) ?_
        refine wd_get hC i4 hW 34 wC_c34 rfl 7 (Nat.le_of_ble_eq_true rfl) f31 rfl rfl dX4_take_112 ?_
        refine lv_iload_n hx hb dX4_take_115 rfl (lv_at hl 3 rfl) ?_
        refine lv_iconst (v := 1) hx hb dX4_take_116 (by decide) ?_
        obtain ⟨hi22, h⟩ := ck_of h
        refine wd_zast hC hW 36 wC_c36 hi22 rfl wC_t36 dX4_take_117 (fun H locs hW => ?_)
        obtain ⟨S23, e24, h⟩ := nm_of h
        replace hW := wq_S e24 hW
        refine lv_aload_n hx hb dX4_take_118 rfl (lv_at hl 2 rfl) ?_
        refine lv_aload_n hx hb dX4_take_119 rfl (lv_at hl 2 rfl) ?_
        refine wd_get hC i4 hW 34 wC_c34 rfl 5 (Nat.le_of_ble_eq_true rfl) f24 rfl rfl dX4_take_120 ?_
        refine lv_iload_n hx hb dX4_take_123 rfl (lv_at hl 1 rfl) ?_
        refine wd_max hC hl.1 ml93 msmax mi mcmax (Nat.le_of_ble_eq_true rfl) (Nat.le_of_ble_eq_true rfl) (Nat.zero_le _) (Nat.zero_le _) dX4_take_124 ?_
        refine wd_put hC i4 tyX4_ok nmX4 hW 34 wC_c34 rfl 5 (Nat.le_of_ble_eq_true rfl) f24 rfl rfl rfl rfl (Nat.le_of_ble_eq_true rfl) wC_s34_5 dX4_take_127 (fun H locs hW => ?_)
        obtain ⟨S25, e26, h⟩ := nm_of h
        replace hW := wq_S e26 hW
        refine lv_iload_n hx hb dX4_take_130 rfl (lv_at hl 1 rfl) ?_
        refine lv_istore (lv' := [(5, .int (S.2.1 35 p0.toNatClampNeg)), (4, .ref (ad (6 + 3 * p0.toNatClampNeg))), (3, .int (S.2.1 35 p0.toNatClampNeg)), (0, .ref (ad 34)), (1, .int p0), (2, .int p1)]) hx hb dX4_take_131 hl (by decide) rfl (fun ls hl => ?_)
        refine lv_iload_n hx hb dX4_take_133 rfl (lv_at hl 5 rfl) ?_
        obtain ⟨q28, hq29, h⟩ := bd_of h
        have hJ238 : ∀ (H : Heap) (locs : List Loc) (ls : Array Slot), Wd D cy A s (wC ad cy q28.1 ++ X) H locs → lv_has ls 6 [(5, .int q28.2), (4, .ref (ad (6 + 3 * p0.toNatClampNeg))), (3, .int (S.2.1 35 p0.toNatClampNeg)), (0, .ref (ad 34)), (1, .int p0), (2, .int p1)] → W p l e (RM 1) s m args below meth c H locs 0 0 Q (F0 m 238 ls []) := by
          intro H locs ls hW hl
          refine lv_aload_n hx hb dX4_take_238 rfl (lv_at hl 3 rfl) ?_
          refine wd_get hC i4 hW 34 wC_c34 rfl 6 (Nat.le_of_ble_eq_true rfl) f27 rfl rfl dX4_take_239 ?_
          refine lv_iload_n hx hb dX4_take_242 rfl (lv_at hl 4 rfl) ?_
          refine lv_aload_n hx hb dX4_take_243 rfl (lv_at hl 3 rfl) ?_
          refine wd_get hC i4 hW 34 wC_c34 rfl 4 (Nat.le_of_ble_eq_true rfl) f21 rfl rfl dX4_take_244 ?_
          refine lv_iconst (v := 2) hx hb dX4_take_247 (by decide) ?_
          refine lv_icmp_eq (tgt := 258) hx hb dX4_take_248 (by decide) (fun c30 => ?_) (fun c30 => ?_)
          · replace h := ite_t h c30
            refine lv_iconst (v := 0) hx hb dX4_take_258 (by decide) ?_
            refine lv_goto (tgt := 264) hx hb dX4_take_259 (by decide) ?_
            obtain ⟨hi31, h⟩ := ck_of h
            refine wd_iast hC hW 35 wC_c35 hi31 wC_t35 dX4_take_264 (fun H locs hW => ?_)
            obtain ⟨S32, e33, h⟩ := nm_of h
            replace hW := wq_S e33 hW
            obtain rfl := Option.some.inj h
            exact wd_vret hA hQ hC hr hk hW dX4_take_265
          · replace h := ite_f h c30
            refine lv_iload hx hb dX4_take_251 (lv_at hl 0 rfl) ?_
            refine lv_bipush (v := 40) hx hb dX4_take_253 (by decide) ?_
            refine lv_icmp_le (tgt := 262) hx hb dX4_take_255 (by decide) (fun c34 => ?_) (fun c34 => ?_)
            · replace h := ite_t h c34
              refine lv_iload hx hb dX4_take_262 (lv_at hl 0 rfl) ?_
              obtain ⟨hi35, h⟩ := ck_of h
              refine wd_iast hC hW 35 wC_c35 hi35 wC_t35 dX4_take_264 (fun H locs hW => ?_)
              obtain ⟨S36, e37, h⟩ := nm_of h
              replace hW := wq_S e37 hW
              obtain rfl := Option.some.inj h
              exact wd_vret hA hQ hC hr hk hW dX4_take_265
            · replace h := ite_f h c34
              refine lv_iconst (v := 0) hx hb dX4_take_258 (by decide) ?_
              refine lv_goto (tgt := 264) hx hb dX4_take_259 (by decide) ?_
              obtain ⟨hi38, h⟩ := ck_of h
              refine wd_iast hC hW 35 wC_c35 hi38 wC_t35 dX4_take_264 (fun H locs hW => ?_)
              obtain ⟨S39, e40, h⟩ := nm_of h
              replace hW := wq_S e40 hW
              obtain rfl := Option.some.inj h
              exact wd_vret hA hQ hC hr hk hW dX4_take_265
        replace h := hq29
        refine lv_if_eq (tgt := 205) hx hb dX4_take_134 (by decide) (fun c27 => ?_) (fun c27 => ?_)
        · replace h := ite_t h c27
          refine lv_aload_n hx hb dX4_take_205 rfl (lv_at hl 3 rfl) ?_
          refine wd_get hC i4 hW 34 wC_c34 rfl 11 (Nat.le_of_ble_eq_true rfl) f44 rfl rfl dX4_take_206 ?_
          refine lv_iload_n hx hb dX4_take_209 rfl (lv_at hl 4 rfl) ?_
          refine lv_dup2_11 hx hb dX4_take_210 rfl rfl ?_
          obtain ⟨hi41, h⟩ := ck_of h
          refine wd_iald hC hW 40 wC_c40 hi41 dX4_take_211 ?_
          refine lv_iconst (v := 1) hx hb dX4_take_212 (by decide) ?_
          refine lv_iadd hx hb dX4_take_213 ?_
          obtain ⟨hi42, h⟩ := ck_of h
          refine wd_iast hC hW 40 wC_c40 hi42 wC_t40 dX4_take_214 (fun H locs hW => ?_)
          obtain ⟨S43, e44, h⟩ := nm_of h
          replace hW := wq_S e44 hW
          refine lv_aload_n hx hb dX4_take_215 rfl (lv_at hl 3 rfl) ?_
          refine wd_get hC i4 hW 34 wC_c34 rfl 12 (Nat.le_of_ble_eq_true rfl) f47 rfl rfl dX4_take_216 ?_
          refine lv_iload_n hx hb dX4_take_219 rfl (lv_at hl 4 rfl) ?_
          refine lv_iload_n hx hb dX4_take_220 rfl (lv_at hl 2 rfl) ?_
          obtain ⟨hi45, h⟩ := ck_of h
          refine wd_iast hC hW 41 wC_c41 hi45 wC_t41 dX4_take_221 (fun H locs hW => ?_)
          obtain ⟨S46, e47, h⟩ := nm_of h
          replace hW := wq_S e47 hW
          refine lv_iload hx hb dX4_take_222 (lv_at hl 0 rfl) ?_
          refine lv_aload hx hb dX4_take_224 (lv_at hl 1 rfl) ?_
          refine lv_aload_n hx hb dX4_take_226 rfl (lv_at hl 3 rfl) ?_
          refine wd_get hC i4 hW 34 wC_c34 rfl 3 (Nat.le_of_ble_eq_true rfl) f18 rfl rfl dX4_take_227 ?_
          refine lv_iconst (v := 3) hx hb dX4_take_230 (by decide) ?_
          refine lv_imul hx hb dX4_take_231 ?_
          refine lv_iconst (v := 2) hx hb dX4_take_232 (by decide) ?_
          refine lv_iadd hx hb dX4_take_233 ?_
          obtain ⟨hi48, h⟩ := ck_of h
          refine wd_iald hC hW (6 + 3 * p0.toNatClampNeg) (wC_Lp (in_lt hi4)) hi48 dX4_take_234 ?_
          refine lv_iadd hx hb dX4_take_235 ?_
          refine lv_topi (fun v49 ev50 => ?_)
          replace h := nm_eq h ev50
          refine lv_istore (lv' := [(5, .int v49), (4, .ref (ad (6 + 3 * p0.toNatClampNeg))), (3, .int (S.2.1 35 p0.toNatClampNeg)), (0, .ref (ad 34)), (1, .int p0), (2, .int p1)]) hx hb dX4_take_236 hl (by decide) rfl (fun ls hl => ?_)
          obtain rfl := Option.some.inj h
          exact hJ238 _ _ _ hW (lv_sub hl [0, 1, 2, 3, 4, 5] rfl)
        · replace h := ite_f h c27
          refine lv_aload_n hx hb dX4_take_137 rfl (lv_at hl 3 rfl) ?_
          refine lv_dup hx hb dX4_take_138 rfl ?_
          refine wd_get hC i4 hW 34 wC_c34 rfl 15 (Nat.le_of_ble_eq_true rfl) f56 rfl rfl dX4_take_139 ?_
          refine lv_iconst (v := 1) hx hb dX4_take_142 (by decide) ?_
          refine lv_iadd hx hb dX4_take_143 ?_
          refine wd_put hC i4 tyX4_ok nmX4 hW 34 wC_c34 rfl 15 (Nat.le_of_ble_eq_true rfl) f56 rfl rfl rfl rfl (Nat.le_of_ble_eq_true rfl) wC_s34_15 dX4_take_144 (fun H locs hW => ?_)
          obtain ⟨S51, e52, h⟩ := nm_of h
          replace hW := wq_S e52 hW
          refine lv_aload_n hx hb dX4_take_147 rfl (lv_at hl 3 rfl) ?_
          refine wd_get hC i4 hW 34 wC_c34 rfl 10 (Nat.le_of_ble_eq_true rfl) f41 rfl rfl dX4_take_148 ?_
          refine lv_iload_n hx hb dX4_take_151 rfl (lv_at hl 4 rfl) ?_
          refine lv_iconst (v := 3) hx hb dX4_take_152 (by decide) ?_
          refine lv_imul hx hb dX4_take_153 ?_
          refine lv_aload_n hx hb dX4_take_154 rfl (lv_at hl 3 rfl) ?_
          refine wd_get hC i4 hW 34 wC_c34 rfl 3 (Nat.le_of_ble_eq_true rfl) f18 rfl rfl dX4_take_155 ?_
          refine lv_iadd hx hb dX4_take_158 ?_
          refine lv_aload_n hx hb dX4_take_159 rfl (lv_at hl 3 rfl) ?_
          refine wd_get hC i4 hW 34 wC_c34 rfl 10 (Nat.le_of_ble_eq_true rfl) f41 rfl rfl dX4_take_160 ?_
          refine lv_iload_n hx hb dX4_take_163 rfl (lv_at hl 4 rfl) ?_
          refine lv_iconst (v := 3) hx hb dX4_take_164 (by decide) ?_
          refine lv_imul hx hb dX4_take_165 ?_
          refine lv_aload_n hx hb dX4_take_166 rfl (lv_at hl 3 rfl) ?_
          refine wd_get hC i4 hW 34 wC_c34 rfl 3 (Nat.le_of_ble_eq_true rfl) f18 rfl rfl dX4_take_167 ?_
          refine lv_iadd hx hb dX4_take_170 ?_
          obtain ⟨hi53, h⟩ := ck_of h
          refine wd_iald hC hW 39 wC_c39 hi53 dX4_take_171 ?_
          refine lv_iload_n hx hb dX4_take_172 rfl (lv_at hl 2 rfl) ?_
          refine wd_max hC hl.1 ml93 msmax mi mcmax (Nat.le_of_ble_eq_true rfl) (Nat.le_of_ble_eq_true rfl) (Nat.zero_le _) (Nat.zero_le _) dX4_take_173 ?_
          obtain ⟨hi54, h⟩ := ck_of h
          refine wd_iast hC hW 39 wC_c39 hi54 wC_t39 dX4_take_176 (fun H locs hW => ?_)
          obtain ⟨S55, e56, h⟩ := nm_of h
          replace hW := wq_S e56 hW
          refine lv_aload_n hx hb dX4_take_177 rfl (lv_at hl 3 rfl) ?_
          refine wd_get hC i4 hW 34 wC_c34 rfl 12 (Nat.le_of_ble_eq_true rfl) f47 rfl rfl dX4_take_178 ?_
          refine lv_iload_n hx hb dX4_take_181 rfl (lv_at hl 4 rfl) ?_
          refine lv_iload_n hx hb dX4_take_182 rfl (lv_at hl 2 rfl) ?_
          refine lv_iconst (v := 1) hx hb dX4_take_183 (by decide) ?_
          refine lv_iadd hx hb dX4_take_184 ?_
          obtain ⟨hi57, h⟩ := ck_of h
          refine wd_iast hC hW 41 wC_c41 hi57 wC_t41 dX4_take_185 (fun H locs hW => ?_)
          obtain ⟨S58, e59, h⟩ := nm_of h
          replace hW := wq_S e59 hW
          refine lv_iload hx hb dX4_take_186 (lv_at hl 0 rfl) ?_
          refine lv_aload hx hb dX4_take_188 (lv_at hl 1 rfl) ?_
          refine lv_aload_n hx hb dX4_take_190 rfl (lv_at hl 3 rfl) ?_
          refine wd_get hC i4 hW 34 wC_c34 rfl 3 (Nat.le_of_ble_eq_true rfl) f18 rfl rfl dX4_take_191 ?_
          refine lv_iconst (v := 3) hx hb dX4_take_194 (by decide) ?_
          refine lv_imul hx hb dX4_take_195 ?_
          refine lv_iconst (v := 1) hx hb dX4_take_196 (by decide) ?_
          refine lv_iadd hx hb dX4_take_197 ?_
          obtain ⟨hi60, h⟩ := ck_of h
          refine wd_iald hC hW (6 + 3 * p0.toNatClampNeg) (wC_Lp (in_lt hi4)) hi60 dX4_take_198 ?_
          refine lv_iadd hx hb dX4_take_199 ?_
          refine lv_topi (fun v61 ev62 => ?_)
          replace h := nm_eq h ev62
          refine lv_istore (lv' := [(5, .int v61), (4, .ref (ad (6 + 3 * p0.toNatClampNeg))), (3, .int (S.2.1 35 p0.toNatClampNeg)), (0, .ref (ad 34)), (1, .int p0), (2, .int p1)]) hx hb dX4_take_200 hl (by decide) rfl (fun ls hl => ?_)
          refine lv_goto (tgt := 238) hx hb dX4_take_202 (by decide) ?_
          obtain rfl := Option.some.inj h
          exact hJ238 _ _ _ hW (lv_sub hl [0, 1, 2, 3, 4, 5] rfl)
      replace h := hq16
      refine lv_if_eq (tgt := 99) hx hb dX4_take_92 (by decide) (fun c14 => ?_) (fun c14 => ?_)
      · replace h := ite_t h c14
        refine lv_iconst (v := 0) hx hb dX4_take_99 (by decide) ?_
        obtain rfl := Option.some.inj h
        exact hJ100 _ _ _ hW (lv_sub hl [0, 1, 2, 3, 4] rfl)
      · replace h := ite_f h c14
        refine lv_iconst (v := 1) hx hb dX4_take_95 (by decide) ?_
        refine lv_goto (tgt := 100) hx hb dX4_take_96 (by decide) ?_
        obtain rfl := Option.some.inj h
        exact hJ100 _ _ _ hW (lv_sub hl [0, 1, 2, 3, 4] rfl)
    · replace h := ite_f h c2
      obtain rfl := Option.some.inj h
      exact wd_vret hA hQ hC hr hk hW dX4_take_17
def m_X4_openRound_L57 (ib ab : Nat) : Nat → St → Int32 → Int32 → Option (St)
  | 0, _, _, _ => none
  | n + 1, S, x2, x3 =>
    if 6 ≤ x3 then (some S) else (ck x3 6 (nm (sA S (ab + 2) x3.toNatClampNeg 0) (fun S12 => ck x3 6 (nm (sA S12 (ab + 3) x3.toNatClampNeg x2) (fun S15 => m_X4_openRound_L57 ib ab n S15 x2 (x3 + 1))))))
theorem m_X4_openRound_L57_0 {ib ab : Nat} (S : St) (x2 : Int32) (x3 : Int32) : m_X4_openRound_L57 ib ab 0 S x2 x3 = none := rfl
theorem m_X4_openRound_L57_s {ib ab : Nat} {n : Nat} {S : St} {x2 : Int32} {x3 : Int32} : m_X4_openRound_L57 ib ab (n + 1) S x2 x3 =
    (if 6 ≤ x3 then (some S) else (ck x3 6 (nm (sA S (ab + 2) x3.toNatClampNeg 0) (fun S12 => ck x3 6 (nm (sA S12 (ab + 3) x3.toNatClampNeg x2) (fun S15 => m_X4_openRound_L57 ib ab n S15 x2 (x3 + 1))))))) := rfl
def m_X4_openRound (ib ab : Nat) (n : Nat) (S : St) (p0 : Int32) : Option (St) :=
  nm (sI S (ib + 3) p0) (fun S1 => nm (sI S1 (ib + 4) 0) (fun S3 => ((if (S3.1 (ib + 2)) < 3 then (if (S3.1 (ib + 3)) = 0 then (some 1) else (if (S3.1 (ib + 2)) = 2 then (if (S3.1 (ib + 3)) = 2 then (some 2) else (some 0)) else (some 0))) else (some 0) : Option (Int32))).bind (fun q6 => (m_X4_openRound_L57 ib ab n S3 q6 0).bind (fun q8 => some q8))))
set_option maxHeartbeats 4000000 in
set_option maxRecDepth 100000 in
theorem c_X4_openRoundM (l : Launch) (D : va_G) (cy : Nat → ClassId) (ad : Nat → Nat) (X : va_W) (n : Nat) (S : St) (p0 : Int32) (r : (St)) (h : m_X4_openRound 30 25 n S p0 = some r) : CT l yX4_openRound (wu yX4_openRound cX4_openRound 4 none) 0 D cy [.ref (ad 25), .int p0] (wC ad cy S ++ X) (none) (wC ad cy r ++ X) := by
  refine CT.mk (cc := cX4_openRound) (maxL := 4) (ret := none) (own := RX4) (by decide) rfl rfl (Nat.le_of_ble_eq_true rfl) ?_
  intro p e s m args below meth c ls A Q hA hQ hC hr hk hW hl
  have hx := hC.1
  have hb := hC.2.1
  have hown := hC.2.2.2.1
  have hts := hC.2.2.2.2
  have hl : lv_has ls 4 [(0, .ref (ad 25)), (1, .int p0)] := hl
  have f21 := hts _ (wu_in w_3_17)
  have i4 := (fun w h => wu_in (inc_4 w h) : ∀ w ∈ u_ws RX4 TX4 16, w ∈ (wu yX4_openRound cX4_openRound 4 none))
  have f24 := hts _ (wu_in w_3_18)
  have f18 := hts _ (wu_in w_3_16)
  have f31 := hts _ (wu_in w_3_21)
  have f35 := hts _ (wu_in w_3_22)
  unfold m_X4_openRound at h
  refine lv_aload_n hx hb dX4_openRound_0 rfl (lv_at hl 0 rfl) ?_
  refine lv_iload_n hx hb dX4_openRound_1 rfl (lv_at hl 1 rfl) ?_
  refine wd_put hC i4 tyX4_ok nmX4 hW 25 wC_c25 rfl 4 (Nat.le_of_ble_eq_true rfl) f21 rfl rfl rfl rfl (Nat.le_of_ble_eq_true rfl) wC_s25_4 dX4_openRound_2 (fun H locs hW => ?_)
  obtain ⟨S1, e2, h⟩ := nm_of h
  replace hW := wq_S e2 hW
  refine lv_aload_n hx hb dX4_openRound_5 rfl (lv_at hl 0 rfl) ?_
  refine lv_iconst (v := 0) hx hb dX4_openRound_6 (by decide) ?_
  refine wd_put hC i4 tyX4_ok nmX4 hW 25 wC_c25 rfl 5 (Nat.le_of_ble_eq_true rfl) f24 rfl rfl rfl rfl (Nat.le_of_ble_eq_true rfl) wC_s25_5 dX4_openRound_7 (fun H locs hW => ?_)
  obtain ⟨S3, e4, h⟩ := nm_of h
  replace hW := wq_S e4 hW
  refine lv_aload_n hx hb dX4_openRound_10 rfl (lv_at hl 0 rfl) ?_
  refine wd_get hC i4 hW 25 wC_c25 rfl 3 (Nat.le_of_ble_eq_true rfl) f18 rfl rfl dX4_openRound_11 ?_
  refine lv_iconst (v := 3) hx hb dX4_openRound_14 (by decide) ?_
  obtain ⟨q6, hq7, h⟩ := bd_of h
  have hJ54 : ∀ (H : Heap) (locs : List Loc) (ls : Array Slot), Wd D cy A s (wC ad cy S3 ++ X) H locs → lv_has ls 4 [(0, .ref (ad 25)), (1, .int p0)] → W p l e (RM 0) s m args below meth c H locs 0 0 Q (F0 m 54 ls [.int q6]) := by
    intro H locs ls hW hl
    refine lv_istore_n (lv' := [(2, .int q6), (0, .ref (ad 25)), (1, .int p0)]) hx hb dX4_openRound_54 rfl hl (by decide) rfl (fun ls hl => ?_)
    refine lv_iconst (v := 0) hx hb dX4_openRound_55 (by decide) ?_
    refine lv_istore_n (lv' := [(3, .int 0), (2, .int q6), (0, .ref (ad 25)), (1, .int p0)]) hx hb dX4_openRound_56 rfl hl (by decide) rfl (fun ls hl => ?_)
    have hL57 : ∀ (n : Nat) (S : St) (x2 : Int32) (x3 : Int32)  (H : Heap) (locs : List Loc) (ls : Array Slot) (r : (St)), m_X4_openRound_L57 30 25 n S x2 x3 = some r → Wd D cy A s (wC ad cy S ++ X) H locs → lv_has ls 4 [(0, .ref (ad 25)), (2, .int x2), (3, .int x3)] → (∀ (H : Heap) (locs : List Loc) (ls : Array Slot), Wd D cy A s (wC ad cy r ++ X) H locs → lv_has ls 4 [(0, .ref (ad 25)), (2, .int x2)] → W p l e (RM 0) s m args below meth c H locs 0 0 Q (F0 m 83 ls [])) → W p l e (RM 0) s m args below meth c H locs 0 0 Q (F0 m 57 ls []) := by
      intro n
      induction n with
      | zero =>
        intro S x2 x3  H locs ls r h
        exact absurd (h.symm.trans (m_X4_openRound_L57_0 ..)) (by simp)
      | succ n ih =>
        intro S x2 x3  H locs ls r h hW hl kk
        rw [m_X4_openRound_L57_s] at h
        refine lv_iload_n hx hb dX4_openRound_57 rfl (lv_at hl 2 rfl) ?_
        refine lv_bipush (v := 6) hx hb dX4_openRound_58 (by decide) ?_
        refine lv_icmp_ge (tgt := 83) hx hb dX4_openRound_60 (by decide) (fun c10 => ?_) (fun c10 => ?_)
        · replace h := ite_t h c10
          obtain rfl := Option.some.inj h
          exact kk _ _ _ hW (lv_sub hl [0, 1] rfl)
        · replace h := ite_f h c10
          refine lv_aload_n hx hb dX4_openRound_63 rfl (lv_at hl 0 rfl) ?_
          refine wd_get hC i4 hW 25 wC_c25 rfl 7 (Nat.le_of_ble_eq_true rfl) f31 rfl rfl dX4_openRound_64 ?_
          refine lv_iload_n hx hb dX4_openRound_67 rfl (lv_at hl 2 rfl) ?_
          refine lv_iconst (v := 0) hx hb dX4_openRound_68 (by decide) ?_
          obtain ⟨hi11, h⟩ := ck_of h
          refine wd_zast hC hW 27 wC_c27 hi11 rfl wC_t27 dX4_openRound_69 (fun H locs hW => ?_)
          obtain ⟨S12, e13, h⟩ := nm_of h
          replace hW := wq_S e13 hW
          refine lv_aload_n hx hb dX4_openRound_70 rfl (lv_at hl 0 rfl) ?_
          refine wd_get hC i4 hW 25 wC_c25 rfl 8 (Nat.le_of_ble_eq_true rfl) f35 rfl rfl dX4_openRound_71 ?_
          refine lv_iload_n hx hb dX4_openRound_74 rfl (lv_at hl 2 rfl) ?_
          refine lv_iload_n hx hb dX4_openRound_75 rfl (lv_at hl 1 rfl) ?_
          obtain ⟨hi14, h⟩ := ck_of h
          refine wd_iast hC hW 28 wC_c28 hi14 wC_t28 dX4_openRound_76 (fun H locs hW => ?_)
          obtain ⟨S15, e16, h⟩ := nm_of h
          replace hW := wq_S e16 hW
          refine lv_iinc (v := x3 + 1) (lv' := [(3, .int (x3 + 1)), (0, .ref (ad 25)), (2, .int x2)]) hx hb dX4_openRound_77 hl (k := 2) rfl rfl (by decide) rfl (fun ls hl => ?_)
          refine lv_goto (tgt := 57) hx hb dX4_openRound_80 (by decide) ?_
          exact ih S15 x2 (x3 + 1) _ _ _ r h hW (lv_sub hl [1, 2, 0] rfl) kk
    obtain ⟨q8, hq9, h⟩ := bd_of h
    refine hL57 n S3 q6 0  _ _ _ q8 hq9 hW (lv_sub hl [2, 1, 0] rfl) (fun H locs ls hW hl => ?_)
    obtain rfl := Option.some.inj h
    exact wd_vret hA hQ hC hr hk hW dX4_openRound_83
  replace h := hq7
  refine lv_icmp_lt (tgt := 22) hx hb dX4_openRound_15 (by decide) (fun c5 => ?_) (fun c5 => ?_)
  · replace h := ite_t h c5
    refine lv_aload_n hx hb dX4_openRound_22 rfl (lv_at hl 0 rfl) ?_
    refine wd_get hC i4 hW 25 wC_c25 rfl 4 (Nat.le_of_ble_eq_true rfl) f21 rfl rfl dX4_openRound_23 ?_
    refine lv_if_ne (tgt := 33) hx hb dX4_openRound_26 (by decide) (fun c17 => ?_) (fun c17 => ?_)
    · replace h := ite_f h c17
      refine lv_aload_n hx hb dX4_openRound_33 rfl (lv_at hl 0 rfl) ?_
      refine wd_get hC i4 hW 25 wC_c25 rfl 3 (Nat.le_of_ble_eq_true rfl) f18 rfl rfl dX4_openRound_34 ?_
      refine lv_iconst (v := 2) hx hb dX4_openRound_37 (by decide) ?_
      refine lv_icmp_ne (tgt := 53) hx hb dX4_openRound_38 (by decide) (fun c18 => ?_) (fun c18 => ?_)
      · replace h := ite_f h c18
        refine lv_iconst (v := 0) hx hb dX4_openRound_53 (by decide) ?_
        obtain rfl := Option.some.inj h
        exact hJ54 _ _ _ hW (lv_sub hl [0, 1] rfl)
      · replace h := ite_t h c18
        refine lv_aload_n hx hb dX4_openRound_41 rfl (lv_at hl 0 rfl) ?_
        refine wd_get hC i4 hW 25 wC_c25 rfl 4 (Nat.le_of_ble_eq_true rfl) f21 rfl rfl dX4_openRound_42 ?_
        refine lv_iconst (v := 2) hx hb dX4_openRound_45 (by decide) ?_
        refine lv_icmp_ne (tgt := 53) hx hb dX4_openRound_46 (by decide) (fun c19 => ?_) (fun c19 => ?_)
        · replace h := ite_f h c19
          refine lv_iconst (v := 0) hx hb dX4_openRound_53 (by decide) ?_
          obtain rfl := Option.some.inj h
          exact hJ54 _ _ _ hW (lv_sub hl [0, 1] rfl)
        · replace h := ite_t h c19
          refine lv_iconst (v := 2) hx hb dX4_openRound_49 (by decide) ?_
          refine lv_goto (tgt := 54) hx hb dX4_openRound_50 (by decide) ?_
          obtain rfl := Option.some.inj h
          exact hJ54 _ _ _ hW (lv_sub hl [0, 1] rfl)
    · replace h := ite_t h c17
      refine lv_iconst (v := 1) hx hb dX4_openRound_29 (by decide) ?_
      refine lv_goto (tgt := 54) hx hb dX4_openRound_30 (by decide) ?_
      obtain rfl := Option.some.inj h
      exact hJ54 _ _ _ hW (lv_sub hl [0, 1] rfl)
  · replace h := ite_f h c5
    refine lv_iconst (v := 0) hx hb dX4_openRound_18 (by decide) ?_
    refine lv_goto (tgt := 54) hx hb dX4_openRound_19 (by decide) ?_
    obtain rfl := Option.some.inj h
    exact hJ54 _ _ _ hW (lv_sub hl [0, 1] rfl)
set_option maxHeartbeats 4000000 in
set_option maxRecDepth 100000 in
theorem c_X4_openRoundD (l : Launch) (D : va_G) (cy : Nat → ClassId) (ad : Nat → Nat) (X : va_W) (n : Nat) (S : St) (p0 : Int32) (r : (St)) (h : m_X4_openRound 40 34 n S p0 = some r) : CT l yX4_openRound (wu yX4_openRound cX4_openRound 4 none) 0 D cy [.ref (ad 34), .int p0] (wC ad cy S ++ X) (none) (wC ad cy r ++ X) := by
  refine CT.mk (cc := cX4_openRound) (maxL := 4) (ret := none) (own := RX4) (by decide) rfl rfl (Nat.le_of_ble_eq_true rfl) ?_
  intro p e s m args below meth c ls A Q hA hQ hC hr hk hW hl
  have hx := hC.1
  have hb := hC.2.1
  have hown := hC.2.2.2.1
  have hts := hC.2.2.2.2
  have hl : lv_has ls 4 [(0, .ref (ad 34)), (1, .int p0)] := hl
  have f21 := hts _ (wu_in w_3_17)
  have i4 := (fun w h => wu_in (inc_4 w h) : ∀ w ∈ u_ws RX4 TX4 16, w ∈ (wu yX4_openRound cX4_openRound 4 none))
  have f24 := hts _ (wu_in w_3_18)
  have f18 := hts _ (wu_in w_3_16)
  have f31 := hts _ (wu_in w_3_21)
  have f35 := hts _ (wu_in w_3_22)
  unfold m_X4_openRound at h
  refine lv_aload_n hx hb dX4_openRound_0 rfl (lv_at hl 0 rfl) ?_
  refine lv_iload_n hx hb dX4_openRound_1 rfl (lv_at hl 1 rfl) ?_
  refine wd_put hC i4 tyX4_ok nmX4 hW 34 wC_c34 rfl 4 (Nat.le_of_ble_eq_true rfl) f21 rfl rfl rfl rfl (Nat.le_of_ble_eq_true rfl) wC_s34_4 dX4_openRound_2 (fun H locs hW => ?_)
  obtain ⟨S1, e2, h⟩ := nm_of h
  replace hW := wq_S e2 hW
  refine lv_aload_n hx hb dX4_openRound_5 rfl (lv_at hl 0 rfl) ?_
  refine lv_iconst (v := 0) hx hb dX4_openRound_6 (by decide) ?_
  refine wd_put hC i4 tyX4_ok nmX4 hW 34 wC_c34 rfl 5 (Nat.le_of_ble_eq_true rfl) f24 rfl rfl rfl rfl (Nat.le_of_ble_eq_true rfl) wC_s34_5 dX4_openRound_7 (fun H locs hW => ?_)
  obtain ⟨S3, e4, h⟩ := nm_of h
  replace hW := wq_S e4 hW
  refine lv_aload_n hx hb dX4_openRound_10 rfl (lv_at hl 0 rfl) ?_
  refine wd_get hC i4 hW 34 wC_c34 rfl 3 (Nat.le_of_ble_eq_true rfl) f18 rfl rfl dX4_openRound_11 ?_
  refine lv_iconst (v := 3) hx hb dX4_openRound_14 (by decide) ?_
  obtain ⟨q6, hq7, h⟩ := bd_of h
  have hJ54 : ∀ (H : Heap) (locs : List Loc) (ls : Array Slot), Wd D cy A s (wC ad cy S3 ++ X) H locs → lv_has ls 4 [(0, .ref (ad 34)), (1, .int p0)] → W p l e (RM 0) s m args below meth c H locs 0 0 Q (F0 m 54 ls [.int q6]) := by
    intro H locs ls hW hl
    refine lv_istore_n (lv' := [(2, .int q6), (0, .ref (ad 34)), (1, .int p0)]) hx hb dX4_openRound_54 rfl hl (by decide) rfl (fun ls hl => ?_)
    refine lv_iconst (v := 0) hx hb dX4_openRound_55 (by decide) ?_
    refine lv_istore_n (lv' := [(3, .int 0), (2, .int q6), (0, .ref (ad 34)), (1, .int p0)]) hx hb dX4_openRound_56 rfl hl (by decide) rfl (fun ls hl => ?_)
    have hL57 : ∀ (n : Nat) (S : St) (x2 : Int32) (x3 : Int32)  (H : Heap) (locs : List Loc) (ls : Array Slot) (r : (St)), m_X4_openRound_L57 40 34 n S x2 x3 = some r → Wd D cy A s (wC ad cy S ++ X) H locs → lv_has ls 4 [(0, .ref (ad 34)), (2, .int x2), (3, .int x3)] → (∀ (H : Heap) (locs : List Loc) (ls : Array Slot), Wd D cy A s (wC ad cy r ++ X) H locs → lv_has ls 4 [(0, .ref (ad 34)), (2, .int x2)] → W p l e (RM 0) s m args below meth c H locs 0 0 Q (F0 m 83 ls [])) → W p l e (RM 0) s m args below meth c H locs 0 0 Q (F0 m 57 ls []) := by
      intro n
      induction n with
      | zero =>
        intro S x2 x3  H locs ls r h
        exact absurd (h.symm.trans (m_X4_openRound_L57_0 ..)) (by simp)
      | succ n ih =>
        intro S x2 x3  H locs ls r h hW hl kk
        rw [m_X4_openRound_L57_s] at h
        refine lv_iload_n hx hb dX4_openRound_57 rfl (lv_at hl 2 rfl) ?_
        refine lv_bipush (v := 6) hx hb dX4_openRound_58 (by decide) ?_
        refine lv_icmp_ge (tgt := 83) hx hb dX4_openRound_60 (by decide) (fun c10 => ?_) (fun c10 => ?_)
        · replace h := ite_t h c10
          obtain rfl := Option.some.inj h
          exact kk _ _ _ hW (lv_sub hl [0, 1] rfl)
        · replace h := ite_f h c10
          refine lv_aload_n hx hb dX4_openRound_63 rfl (lv_at hl 0 rfl) ?_
          refine wd_get hC i4 hW 34 wC_c34 rfl 7 (Nat.le_of_ble_eq_true rfl) f31 rfl rfl dX4_openRound_64 ?_
          refine lv_iload_n hx hb dX4_openRound_67 rfl (lv_at hl 2 rfl) ?_
          refine lv_iconst (v := 0) hx hb dX4_openRound_68 (by decide) ?_
          obtain ⟨hi11, h⟩ := ck_of h
          refine wd_zast hC hW 36 wC_c36 hi11 rfl wC_t36 dX4_openRound_69 (fun H locs hW => ?_)
          obtain ⟨S12, e13, h⟩ := nm_of h
          replace hW := wq_S e13 hW
          refine lv_aload_n hx hb dX4_openRound_70 rfl (lv_at hl 0 rfl) ?_
          refine wd_get hC i4 hW 34 wC_c34 rfl 8 (Nat.le_of_ble_eq_true rfl) f35 rfl rfl dX4_openRound_71 ?_
          refine lv_iload_n hx hb dX4_openRound_74 rfl (lv_at hl 2 rfl) ?_
          refine lv_iload_n hx hb dX4_openRound_75 rfl (lv_at hl 1 rfl) ?_
          obtain ⟨hi14, h⟩ := ck_of h
          refine wd_iast hC hW 37 wC_c37 hi14 wC_t37 dX4_openRound_76 (fun H locs hW => ?_)
          obtain ⟨S15, e16, h⟩ := nm_of h
          replace hW := wq_S e16 hW
          refine lv_iinc (v := x3 + 1) (lv' := [(3, .int (x3 + 1)), (0, .ref (ad 34)), (2, .int x2)]) hx hb dX4_openRound_77 hl (k := 2) rfl rfl (by decide) rfl (fun ls hl => ?_)
          refine lv_goto (tgt := 57) hx hb dX4_openRound_80 (by decide) ?_
          exact ih S15 x2 (x3 + 1) _ _ _ r h hW (lv_sub hl [1, 2, 0] rfl) kk
    obtain ⟨q8, hq9, h⟩ := bd_of h
    refine hL57 n S3 q6 0  _ _ _ q8 hq9 hW (lv_sub hl [2, 1, 0] rfl) (fun H locs ls hW hl => ?_)
    obtain rfl := Option.some.inj h
    exact wd_vret hA hQ hC hr hk hW dX4_openRound_83
  replace h := hq7
  refine lv_icmp_lt (tgt := 22) hx hb dX4_openRound_15 (by decide) (fun c5 => ?_) (fun c5 => ?_)
  · replace h := ite_t h c5
    refine lv_aload_n hx hb dX4_openRound_22 rfl (lv_at hl 0 rfl) ?_
    refine wd_get hC i4 hW 34 wC_c34 rfl 4 (Nat.le_of_ble_eq_true rfl) f21 rfl rfl dX4_openRound_23 ?_
    refine lv_if_ne (tgt := 33) hx hb dX4_openRound_26 (by decide) (fun c17 => ?_) (fun c17 => ?_)
    · replace h := ite_f h c17
      refine lv_aload_n hx hb dX4_openRound_33 rfl (lv_at hl 0 rfl) ?_
      refine wd_get hC i4 hW 34 wC_c34 rfl 3 (Nat.le_of_ble_eq_true rfl) f18 rfl rfl dX4_openRound_34 ?_
      refine lv_iconst (v := 2) hx hb dX4_openRound_37 (by decide) ?_
      refine lv_icmp_ne (tgt := 53) hx hb dX4_openRound_38 (by decide) (fun c18 => ?_) (fun c18 => ?_)
      · replace h := ite_f h c18
        refine lv_iconst (v := 0) hx hb dX4_openRound_53 (by decide) ?_
        obtain rfl := Option.some.inj h
        exact hJ54 _ _ _ hW (lv_sub hl [0, 1] rfl)
      · replace h := ite_t h c18
        refine lv_aload_n hx hb dX4_openRound_41 rfl (lv_at hl 0 rfl) ?_
        refine wd_get hC i4 hW 34 wC_c34 rfl 4 (Nat.le_of_ble_eq_true rfl) f21 rfl rfl dX4_openRound_42 ?_
        refine lv_iconst (v := 2) hx hb dX4_openRound_45 (by decide) ?_
        refine lv_icmp_ne (tgt := 53) hx hb dX4_openRound_46 (by decide) (fun c19 => ?_) (fun c19 => ?_)
        · replace h := ite_f h c19
          refine lv_iconst (v := 0) hx hb dX4_openRound_53 (by decide) ?_
          obtain rfl := Option.some.inj h
          exact hJ54 _ _ _ hW (lv_sub hl [0, 1] rfl)
        · replace h := ite_t h c19
          refine lv_iconst (v := 2) hx hb dX4_openRound_49 (by decide) ?_
          refine lv_goto (tgt := 54) hx hb dX4_openRound_50 (by decide) ?_
          obtain rfl := Option.some.inj h
          exact hJ54 _ _ _ hW (lv_sub hl [0, 1] rfl)
    · replace h := ite_t h c17
      refine lv_iconst (v := 1) hx hb dX4_openRound_29 (by decide) ?_
      refine lv_goto (tgt := 54) hx hb dX4_openRound_30 (by decide) ?_
      obtain rfl := Option.some.inj h
      exact hJ54 _ _ _ hW (lv_sub hl [0, 1] rfl)
  · replace h := ite_f h c5
    refine lv_iconst (v := 0) hx hb dX4_openRound_18 (by decide) ?_
    refine lv_goto (tgt := 54) hx hb dX4_openRound_19 (by decide) ?_
    obtain rfl := Option.some.inj h
    exact hJ54 _ _ _ hW (lv_sub hl [0, 1] rfl)
def m_X4_openLift_L2 (ib ab : Nat) : Nat → St → Int32 → Option (St)
  | 0, _, _ => none
  | n + 1, S, x1 =>
    if 6 ≤ x1 then (some S) else (((if (S.1 (ib + 0)) ≤ x1 then (some 0) else (if 3 ≤ (S.1 (ib + 2)) then (some 0) else (ck x1 6 (if (S.2.1 (ab + 4) x1.toNatClampNeg) = 0 then (some 1) else (some 0)))) : Option (Int32))).bind (fun q5 => ((if q5 = 0 then (some 0) else (ck x1 7 (ck ((S.1 (ib + 2)) * 3) 9 (some (S.2.1 (6 + 3 * x1.toNatClampNeg) ((S.1 (ib + 2)) * 3).toNatClampNeg)))) : Option (Int32))).bind (fun q8 => ck x1 6 (nm (sA S (ab + 1) x1.toNatClampNeg q8) (fun S11 => ck x1 6 (nm (sA S11 (ab + 6) x1.toNatClampNeg 0) (fun S14 => ck x1 6 (nm (sA S14 (ab + 7) x1.toNatClampNeg 1) (fun S17 => m_X4_openLift_L2 ib ab n S17 (x1 + 1))))))))))
theorem m_X4_openLift_L2_0 {ib ab : Nat} (S : St) (x1 : Int32) : m_X4_openLift_L2 ib ab 0 S x1 = none := rfl
theorem m_X4_openLift_L2_s {ib ab : Nat} {n : Nat} {S : St} {x1 : Int32} : m_X4_openLift_L2 ib ab (n + 1) S x1 =
    (if 6 ≤ x1 then (some S) else (((if (S.1 (ib + 0)) ≤ x1 then (some 0) else (if 3 ≤ (S.1 (ib + 2)) then (some 0) else (ck x1 6 (if (S.2.1 (ab + 4) x1.toNatClampNeg) = 0 then (some 1) else (some 0)))) : Option (Int32))).bind (fun q5 => ((if q5 = 0 then (some 0) else (ck x1 7 (ck ((S.1 (ib + 2)) * 3) 9 (some (S.2.1 (6 + 3 * x1.toNatClampNeg) ((S.1 (ib + 2)) * 3).toNatClampNeg)))) : Option (Int32))).bind (fun q8 => ck x1 6 (nm (sA S (ab + 1) x1.toNatClampNeg q8) (fun S11 => ck x1 6 (nm (sA S11 (ab + 6) x1.toNatClampNeg 0) (fun S14 => ck x1 6 (nm (sA S14 (ab + 7) x1.toNatClampNeg 1) (fun S17 => m_X4_openLift_L2 ib ab n S17 (x1 + 1))))))))))) := rfl
def m_X4_openLift (ib ab : Nat) (n : Nat) (S : St) : Option (St) :=
  (m_X4_openLift_L2 ib ab n S 0).bind (fun q1 => (m_X4_openRound ib ab n q1 0).bind (fun r24 => some r24))
set_option maxHeartbeats 4000000 in
set_option maxRecDepth 100000 in
theorem c_X4_openLiftM (l : Launch) (D : va_G) (cy : Nat → ClassId) (ad : Nat → Nat) (X : va_W) (n : Nat) (S : St) (r : (St)) (h : m_X4_openLift 30 25 n S = some r) : CT l yX4_openLift (wu yX4_openLift cX4_openLift 3 none) 1 D cy [.ref (ad 25)] (wC ad cy S ++ X) (none) (wC ad cy r ++ X) := by
  refine CT.mk (cc := cX4_openLift) (maxL := 3) (ret := none) (own := RX4) (by decide) rfl rfl (Nat.le_of_ble_eq_true rfl) ?_
  intro p e s m args below meth c ls A Q hA hQ hC hr hk hW hl
  have hx := hC.1
  have hb := hC.2.1
  have hown := hC.2.2.2.1
  have hts := hC.2.2.2.2
  have hl : lv_has ls 3 [(0, .ref (ad 25))] := hl
  have f9 := hts _ (wu_in w_3_14)
  have i4 := (fun w h => wu_in (inc_4 w h) : ∀ w ∈ u_ws RX4 TX4 16, w ∈ (wu yX4_openLift cX4_openLift 3 none))
  have f27 := hts _ (wu_in w_3_19)
  have f44 := hts _ (wu_in w_4_1)
  have f47 := hts _ (wu_in w_4_2)
  have f59 := hts _ (wu_in w_4_6)
  have f66 := hts _ (wu_in w_9_2)
  have i3 := (fun w h => wu_in (inc_3 w h) : ∀ w ∈ u_ws RX3 TX3 4, w ∈ (wu yX4_openLift cX4_openLift 3 none))
  have f18 := hts _ (wu_in w_3_16)
  have f38 := hts _ (wu_in w_3_23)
  unfold m_X4_openLift at h
  refine lv_iconst (v := 0) hx hb dX4_openLift_0 (by decide) ?_
  refine lv_istore_n (lv' := [(1, .int 0), (0, .ref (ad 25))]) hx hb dX4_openLift_1 rfl hl (by decide) rfl (fun ls hl => ?_)
  have hL2 : ∀ (n : Nat) (S : St) (x1 : Int32)  (H : Heap) (locs : List Loc) (ls : Array Slot) (r : (St)), m_X4_openLift_L2 30 25 n S x1 = some r → Wd D cy A s (wC ad cy S ++ X) H locs → lv_has ls 3 [(0, .ref (ad 25)), (1, .int x1)] → (∀ (H : Heap) (locs : List Loc) (ls : Array Slot), Wd D cy A s (wC ad cy r ++ X) H locs → lv_has ls 3 [(0, .ref (ad 25))] → W p l e (RM 1) s m args below meth c H locs 0 0 Q (F0 m 89 ls [])) → W p l e (RM 1) s m args below meth c H locs 0 0 Q (F0 m 2 ls []) := by
    intro n
    induction n with
    | zero =>
      intro S x1  H locs ls r h
      exact absurd (h.symm.trans (m_X4_openLift_L2_0 ..)) (by simp)
    | succ n ih =>
      intro S x1  H locs ls r h hW hl kk
      rw [m_X4_openLift_L2_s] at h
      refine lv_iload_n hx hb dX4_openLift_2 rfl (lv_at hl 1 rfl) ?_
      refine lv_bipush (v := 6) hx hb dX4_openLift_3 (by decide) ?_
      refine lv_icmp_ge (tgt := 89) hx hb dX4_openLift_5 (by decide) (fun c3 => ?_) (fun c3 => ?_)
      · replace h := ite_t h c3
        obtain rfl := Option.some.inj h
        exact kk _ _ _ hW (lv_sub hl [0] rfl)
      · replace h := ite_f h c3
        refine lv_iload_n hx hb dX4_openLift_8 rfl (lv_at hl 1 rfl) ?_
        refine lv_aload_n hx hb dX4_openLift_9 rfl (lv_at hl 0 rfl) ?_
        refine wd_get hC i4 hW 25 wC_c25 rfl 1 (Nat.le_of_ble_eq_true rfl) f9 rfl rfl dX4_openLift_10 ?_
        obtain ⟨q5, hq6, h⟩ := bd_of h
        have hJ38 : ∀ (H : Heap) (locs : List Loc) (ls : Array Slot), Wd D cy A s (wC ad cy S ++ X) H locs → lv_has ls 3 [(0, .ref (ad 25)), (1, .int x1)] → W p l e (RM 1) s m args below meth c H locs 0 0 Q (F0 m 38 ls [.int q5]) := by
          intro H locs ls hW hl
          refine lv_istore_n (lv' := [(2, .int q5), (0, .ref (ad 25)), (1, .int x1)]) hx hb dX4_openLift_38 rfl hl (by decide) rfl (fun ls hl => ?_)
          refine lv_aload_n hx hb dX4_openLift_39 rfl (lv_at hl 1 rfl) ?_
          refine wd_get hC i4 hW 25 wC_c25 rfl 6 (Nat.le_of_ble_eq_true rfl) f27 rfl rfl dX4_openLift_40 ?_
          refine lv_iload_n hx hb dX4_openLift_43 rfl (lv_at hl 2 rfl) ?_
          refine lv_iload_n hx hb dX4_openLift_44 rfl (lv_at hl 0 rfl) ?_
          obtain ⟨q8, hq9, h⟩ := bd_of h
          have hJ68 : ∀ (H : Heap) (locs : List Loc) (ls : Array Slot), Wd D cy A s (wC ad cy S ++ X) H locs → lv_has ls 3 [(2, .int q5), (0, .ref (ad 25)), (1, .int x1)] → W p l e (RM 1) s m args below meth c H locs 0 0 Q (F0 m 68 ls [.int q8, .int x1, .ref (ad 26)]) := by
            intro H locs ls hW hl
            obtain ⟨hi10, h⟩ := ck_of h
            refine wd_iast hC hW 26 wC_c26 hi10 wC_t26 dX4_openLift_68 (fun H locs hW => ?_)
            obtain ⟨S11, e12, h⟩ := nm_of h
            replace hW := wq_S e12 hW
            refine lv_aload_n hx hb dX4_openLift_69 rfl (lv_at hl 1 rfl) ?_
            refine wd_get hC i4 hW 25 wC_c25 rfl 11 (Nat.le_of_ble_eq_true rfl) f44 rfl rfl dX4_openLift_70 ?_
            refine lv_iload_n hx hb dX4_openLift_73 rfl (lv_at hl 2 rfl) ?_
            refine lv_iconst (v := 0) hx hb dX4_openLift_74 (by decide) ?_
            obtain ⟨hi13, h⟩ := ck_of h
            refine wd_iast hC hW 31 wC_c31 hi13 wC_t31 dX4_openLift_75 (fun H locs hW => ?_)
            obtain ⟨S14, e15, h⟩ := nm_of h
            replace hW := wq_S e15 hW
            refine lv_aload_n hx hb dX4_openLift_76 rfl (lv_at hl 1 rfl) ?_
            refine wd_get hC i4 hW 25 wC_c25 rfl 12 (Nat.le_of_ble_eq_true rfl) f47 rfl rfl dX4_openLift_77 ?_
            refine lv_iload_n hx hb dX4_openLift_80 rfl (lv_at hl 2 rfl) ?_
            refine lv_iconst (v := 1) hx hb dX4_openLift_81 (by decide) ?_
            obtain ⟨hi16, h⟩ := ck_of h
            refine wd_iast hC hW 32 wC_c32 hi16 wC_t32 dX4_openLift_82 (fun H locs hW => ?_)
            obtain ⟨S17, e18, h⟩ := nm_of h
            replace hW := wq_S e18 hW
            refine lv_iinc (v := x1 + 1) (lv' := [(1, .int (x1 + 1)), (2, .int q5), (0, .ref (ad 25))]) hx hb dX4_openLift_83 hl (k := 2) rfl rfl (by decide) rfl (fun ls hl => ?_)
            refine lv_goto (tgt := 2) hx hb dX4_openLift_86 (by decide) ?_
            exact ih S17 (x1 + 1) _ _ _ r h hW (lv_sub hl [2, 0] rfl) kk
          replace h := hq9
          refine lv_if_eq (tgt := 67) hx hb dX4_openLift_45 (by decide) (fun c7 => ?_) (fun c7 => ?_)
          · replace h := ite_t h c7
            refine lv_iconst (v := 0) hx hb dX4_openLift_67 (by decide) ?_
            obtain rfl := Option.some.inj h
            exact hJ68 _ _ _ hW (lv_sub hl [0, 1, 2] rfl)
          · replace h := ite_f h c7
            refine lv_aload_n hx hb dX4_openLift_48 rfl (lv_at hl 1 rfl) ?_
            refine wd_get hC i4 hW 25 wC_c25 rfl 0 (Nat.le_of_ble_eq_true rfl) f59 rfl rfl dX4_openLift_49 ?_
            refine lv_iload_n hx hb dX4_openLift_52 rfl (lv_at hl 2 rfl) ?_
            obtain ⟨hi19, h⟩ := ck_of h
            refine wd_aldq hC hW 3 wC_c3 hi19 rfl dX4_openLift_53 ?_
            refine wd_get hC i3 hW (4 + 3 * x1.toNatClampNeg) (wC_L (in_lt hi19)) rfl 3 (Nat.le_of_ble_eq_true rfl) f66 rfl rfl dX4_openLift_54 ?_
            refine lv_aload_n hx hb dX4_openLift_57 rfl (lv_at hl 1 rfl) ?_
            refine wd_get hC i4 hW 25 wC_c25 rfl 3 (Nat.le_of_ble_eq_true rfl) f18 rfl rfl dX4_openLift_58 ?_
            refine lv_iconst (v := 3) hx hb dX4_openLift_61 (by decide) ?_
            refine lv_imul hx hb dX4_openLift_62 ?_
            obtain ⟨hi20, h⟩ := ck_of h
            refine wd_iald hC hW (6 + 3 * x1.toNatClampNeg) (wC_Lp (in_lt hi19)) hi20 dX4_openLift_63 ?_
            refine lv_goto (tgt := 68) hx hb dX4_openLift_64 (by decide) ?_
            obtain rfl := Option.some.inj h
            exact hJ68 _ _ _ hW (lv_sub hl [0, 1, 2] rfl)
        replace h := hq6
        refine lv_icmp_ge (tgt := 37) hx hb dX4_openLift_13 (by decide) (fun c4 => ?_) (fun c4 => ?_)
        · replace h := ite_t h c4
          refine lv_iconst (v := 0) hx hb dX4_openLift_37 (by decide) ?_
          obtain rfl := Option.some.inj h
          exact hJ38 _ _ _ hW (lv_sub hl [0, 1] rfl)
        · replace h := ite_f h c4
          refine lv_aload_n hx hb dX4_openLift_16 rfl (lv_at hl 0 rfl) ?_
          refine wd_get hC i4 hW 25 wC_c25 rfl 3 (Nat.le_of_ble_eq_true rfl) f18 rfl rfl dX4_openLift_17 ?_
          refine lv_iconst (v := 3) hx hb dX4_openLift_20 (by decide) ?_
          refine lv_icmp_ge (tgt := 37) hx hb dX4_openLift_21 (by decide) (fun c21 => ?_) (fun c21 => ?_)
          · replace h := ite_t h c21
            refine lv_iconst (v := 0) hx hb dX4_openLift_37 (by decide) ?_
            obtain rfl := Option.some.inj h
            exact hJ38 _ _ _ hW (lv_sub hl [0, 1] rfl)
          · replace h := ite_f h c21
            refine lv_aload_n hx hb dX4_openLift_24 rfl (lv_at hl 0 rfl) ?_
            refine wd_get hC i4 hW 25 wC_c25 rfl 9 (Nat.le_of_ble_eq_true rfl) f38 rfl rfl dX4_openLift_25 ?_
            refine lv_iload_n hx hb dX4_openLift_28 rfl (lv_at hl 1 rfl) ?_
            obtain ⟨hi22, h⟩ := ck_of h
            refine wd_zald hC hW 29 wC_c29 hi22 dX4_openLift_29 ?_
            refine lv_if_ne (tgt := 37) hx hb dX4_openLift_30 (by decide) (fun c23 => ?_) (fun c23 => ?_)
            · replace h := ite_f h c23
              refine lv_iconst (v := 0) hx hb dX4_openLift_37 (by decide) ?_
              obtain rfl := Option.some.inj h
              exact hJ38 _ _ _ hW (lv_sub hl [0, 1] rfl)
            · replace h := ite_t h c23
              refine lv_iconst (v := 1) hx hb dX4_openLift_33 (by decide) ?_
              refine lv_goto (tgt := 38) hx hb dX4_openLift_34 (by decide) ?_
              obtain rfl := Option.some.inj h
              exact hJ38 _ _ _ hW (lv_sub hl [0, 1] rfl)
  obtain ⟨q1, hq2, h⟩ := bd_of h
  refine hL2 n S 0  _ _ _ q1 hq2 hW (lv_sub hl [1, 0] rfl) (fun H locs ls hW hl => ?_)
  refine lv_aload_n hx hb dX4_openLift_89 rfl (lv_at hl 0 rfl) ?_
  refine lv_iconst (v := 0) hx hb dX4_openLift_90 (by decide) ?_
  obtain ⟨r24, hr25, h⟩ := bd_of h
  refine wd_callV0 (As := [.int 0]) hC hW 25 wC_c25 rfl (c_X4_openRoundM l D cy ad X n q1 0 r24 hr25) (cwV 1 hts (gu_V w_9_6 w_9_3 w_9_4 w_9_5 w_1_23) rfl rfl rfl hdX4_openRound ⟨Nat.le_of_ble_eq_true rfl, Nat.le_of_ble_eq_true rfl⟩) rfl hl.1 rfl (Nat.le_of_ble_eq_true rfl) ⟨Nat.zero_le _, Nat.zero_le _⟩ dX4_openLift_91 (fun H locs hW => ?_)
  obtain rfl := Option.some.inj h
  exact wd_vret hA hQ hC hr hk hW dX4_openLift_94
set_option maxHeartbeats 4000000 in
set_option maxRecDepth 100000 in
theorem c_X4_openLiftD (l : Launch) (D : va_G) (cy : Nat → ClassId) (ad : Nat → Nat) (X : va_W) (n : Nat) (S : St) (r : (St)) (h : m_X4_openLift 40 34 n S = some r) : CT l yX4_openLift (wu yX4_openLift cX4_openLift 3 none) 1 D cy [.ref (ad 34)] (wC ad cy S ++ X) (none) (wC ad cy r ++ X) := by
  refine CT.mk (cc := cX4_openLift) (maxL := 3) (ret := none) (own := RX4) (by decide) rfl rfl (Nat.le_of_ble_eq_true rfl) ?_
  intro p e s m args below meth c ls A Q hA hQ hC hr hk hW hl
  have hx := hC.1
  have hb := hC.2.1
  have hown := hC.2.2.2.1
  have hts := hC.2.2.2.2
  have hl : lv_has ls 3 [(0, .ref (ad 34))] := hl
  have f9 := hts _ (wu_in w_3_14)
  have i4 := (fun w h => wu_in (inc_4 w h) : ∀ w ∈ u_ws RX4 TX4 16, w ∈ (wu yX4_openLift cX4_openLift 3 none))
  have f27 := hts _ (wu_in w_3_19)
  have f44 := hts _ (wu_in w_4_1)
  have f47 := hts _ (wu_in w_4_2)
  have f59 := hts _ (wu_in w_4_6)
  have f66 := hts _ (wu_in w_9_2)
  have i3 := (fun w h => wu_in (inc_3 w h) : ∀ w ∈ u_ws RX3 TX3 4, w ∈ (wu yX4_openLift cX4_openLift 3 none))
  have f18 := hts _ (wu_in w_3_16)
  have f38 := hts _ (wu_in w_3_23)
  unfold m_X4_openLift at h
  refine lv_iconst (v := 0) hx hb dX4_openLift_0 (by decide) ?_
  refine lv_istore_n (lv' := [(1, .int 0), (0, .ref (ad 34))]) hx hb dX4_openLift_1 rfl hl (by decide) rfl (fun ls hl => ?_)
  have hL2 : ∀ (n : Nat) (S : St) (x1 : Int32)  (H : Heap) (locs : List Loc) (ls : Array Slot) (r : (St)), m_X4_openLift_L2 40 34 n S x1 = some r → Wd D cy A s (wC ad cy S ++ X) H locs → lv_has ls 3 [(0, .ref (ad 34)), (1, .int x1)] → (∀ (H : Heap) (locs : List Loc) (ls : Array Slot), Wd D cy A s (wC ad cy r ++ X) H locs → lv_has ls 3 [(0, .ref (ad 34))] → W p l e (RM 1) s m args below meth c H locs 0 0 Q (F0 m 89 ls [])) → W p l e (RM 1) s m args below meth c H locs 0 0 Q (F0 m 2 ls []) := by
    intro n
    induction n with
    | zero =>
      intro S x1  H locs ls r h
      exact absurd (h.symm.trans (m_X4_openLift_L2_0 ..)) (by simp)
    | succ n ih =>
      intro S x1  H locs ls r h hW hl kk
      rw [m_X4_openLift_L2_s] at h
      refine lv_iload_n hx hb dX4_openLift_2 rfl (lv_at hl 1 rfl) ?_
      refine lv_bipush (v := 6) hx hb dX4_openLift_3 (by decide) ?_
      refine lv_icmp_ge (tgt := 89) hx hb dX4_openLift_5 (by decide) (fun c3 => ?_) (fun c3 => ?_)
      · replace h := ite_t h c3
        obtain rfl := Option.some.inj h
        exact kk _ _ _ hW (lv_sub hl [0] rfl)
      · replace h := ite_f h c3
        refine lv_iload_n hx hb dX4_openLift_8 rfl (lv_at hl 1 rfl) ?_
        refine lv_aload_n hx hb dX4_openLift_9 rfl (lv_at hl 0 rfl) ?_
        refine wd_get hC i4 hW 34 wC_c34 rfl 1 (Nat.le_of_ble_eq_true rfl) f9 rfl rfl dX4_openLift_10 ?_
        obtain ⟨q5, hq6, h⟩ := bd_of h
        have hJ38 : ∀ (H : Heap) (locs : List Loc) (ls : Array Slot), Wd D cy A s (wC ad cy S ++ X) H locs → lv_has ls 3 [(0, .ref (ad 34)), (1, .int x1)] → W p l e (RM 1) s m args below meth c H locs 0 0 Q (F0 m 38 ls [.int q5]) := by
          intro H locs ls hW hl
          refine lv_istore_n (lv' := [(2, .int q5), (0, .ref (ad 34)), (1, .int x1)]) hx hb dX4_openLift_38 rfl hl (by decide) rfl (fun ls hl => ?_)
          refine lv_aload_n hx hb dX4_openLift_39 rfl (lv_at hl 1 rfl) ?_
          refine wd_get hC i4 hW 34 wC_c34 rfl 6 (Nat.le_of_ble_eq_true rfl) f27 rfl rfl dX4_openLift_40 ?_
          refine lv_iload_n hx hb dX4_openLift_43 rfl (lv_at hl 2 rfl) ?_
          refine lv_iload_n hx hb dX4_openLift_44 rfl (lv_at hl 0 rfl) ?_
          obtain ⟨q8, hq9, h⟩ := bd_of h
          have hJ68 : ∀ (H : Heap) (locs : List Loc) (ls : Array Slot), Wd D cy A s (wC ad cy S ++ X) H locs → lv_has ls 3 [(2, .int q5), (0, .ref (ad 34)), (1, .int x1)] → W p l e (RM 1) s m args below meth c H locs 0 0 Q (F0 m 68 ls [.int q8, .int x1, .ref (ad 35)]) := by
            intro H locs ls hW hl
            obtain ⟨hi10, h⟩ := ck_of h
            refine wd_iast hC hW 35 wC_c35 hi10 wC_t35 dX4_openLift_68 (fun H locs hW => ?_)
            obtain ⟨S11, e12, h⟩ := nm_of h
            replace hW := wq_S e12 hW
            refine lv_aload_n hx hb dX4_openLift_69 rfl (lv_at hl 1 rfl) ?_
            refine wd_get hC i4 hW 34 wC_c34 rfl 11 (Nat.le_of_ble_eq_true rfl) f44 rfl rfl dX4_openLift_70 ?_
            refine lv_iload_n hx hb dX4_openLift_73 rfl (lv_at hl 2 rfl) ?_
            refine lv_iconst (v := 0) hx hb dX4_openLift_74 (by decide) ?_
            obtain ⟨hi13, h⟩ := ck_of h
            refine wd_iast hC hW 40 wC_c40 hi13 wC_t40 dX4_openLift_75 (fun H locs hW => ?_)
            obtain ⟨S14, e15, h⟩ := nm_of h
            replace hW := wq_S e15 hW
            refine lv_aload_n hx hb dX4_openLift_76 rfl (lv_at hl 1 rfl) ?_
            refine wd_get hC i4 hW 34 wC_c34 rfl 12 (Nat.le_of_ble_eq_true rfl) f47 rfl rfl dX4_openLift_77 ?_
            refine lv_iload_n hx hb dX4_openLift_80 rfl (lv_at hl 2 rfl) ?_
            refine lv_iconst (v := 1) hx hb dX4_openLift_81 (by decide) ?_
            obtain ⟨hi16, h⟩ := ck_of h
            refine wd_iast hC hW 41 wC_c41 hi16 wC_t41 dX4_openLift_82 (fun H locs hW => ?_)
            obtain ⟨S17, e18, h⟩ := nm_of h
            replace hW := wq_S e18 hW
            refine lv_iinc (v := x1 + 1) (lv' := [(1, .int (x1 + 1)), (2, .int q5), (0, .ref (ad 34))]) hx hb dX4_openLift_83 hl (k := 2) rfl rfl (by decide) rfl (fun ls hl => ?_)
            refine lv_goto (tgt := 2) hx hb dX4_openLift_86 (by decide) ?_
            exact ih S17 (x1 + 1) _ _ _ r h hW (lv_sub hl [2, 0] rfl) kk
          replace h := hq9
          refine lv_if_eq (tgt := 67) hx hb dX4_openLift_45 (by decide) (fun c7 => ?_) (fun c7 => ?_)
          · replace h := ite_t h c7
            refine lv_iconst (v := 0) hx hb dX4_openLift_67 (by decide) ?_
            obtain rfl := Option.some.inj h
            exact hJ68 _ _ _ hW (lv_sub hl [0, 1, 2] rfl)
          · replace h := ite_f h c7
            refine lv_aload_n hx hb dX4_openLift_48 rfl (lv_at hl 1 rfl) ?_
            refine wd_get hC i4 hW 34 wC_c34 rfl 0 (Nat.le_of_ble_eq_true rfl) f59 rfl rfl dX4_openLift_49 ?_
            refine lv_iload_n hx hb dX4_openLift_52 rfl (lv_at hl 2 rfl) ?_
            obtain ⟨hi19, h⟩ := ck_of h
            refine wd_aldq hC hW 3 wC_c3 hi19 rfl dX4_openLift_53 ?_
            refine wd_get hC i3 hW (4 + 3 * x1.toNatClampNeg) (wC_L (in_lt hi19)) rfl 3 (Nat.le_of_ble_eq_true rfl) f66 rfl rfl dX4_openLift_54 ?_
            refine lv_aload_n hx hb dX4_openLift_57 rfl (lv_at hl 1 rfl) ?_
            refine wd_get hC i4 hW 34 wC_c34 rfl 3 (Nat.le_of_ble_eq_true rfl) f18 rfl rfl dX4_openLift_58 ?_
            refine lv_iconst (v := 3) hx hb dX4_openLift_61 (by decide) ?_
            refine lv_imul hx hb dX4_openLift_62 ?_
            obtain ⟨hi20, h⟩ := ck_of h
            refine wd_iald hC hW (6 + 3 * x1.toNatClampNeg) (wC_Lp (in_lt hi19)) hi20 dX4_openLift_63 ?_
            refine lv_goto (tgt := 68) hx hb dX4_openLift_64 (by decide) ?_
            obtain rfl := Option.some.inj h
            exact hJ68 _ _ _ hW (lv_sub hl [0, 1, 2] rfl)
        replace h := hq6
        refine lv_icmp_ge (tgt := 37) hx hb dX4_openLift_13 (by decide) (fun c4 => ?_) (fun c4 => ?_)
        · replace h := ite_t h c4
          refine lv_iconst (v := 0) hx hb dX4_openLift_37 (by decide) ?_
          obtain rfl := Option.some.inj h
          exact hJ38 _ _ _ hW (lv_sub hl [0, 1] rfl)
        · replace h := ite_f h c4
          refine lv_aload_n hx hb dX4_openLift_16 rfl (lv_at hl 0 rfl) ?_
          refine wd_get hC i4 hW 34 wC_c34 rfl 3 (Nat.le_of_ble_eq_true rfl) f18 rfl rfl dX4_openLift_17 ?_
          refine lv_iconst (v := 3) hx hb dX4_openLift_20 (by decide) ?_
          refine lv_icmp_ge (tgt := 37) hx hb dX4_openLift_21 (by decide) (fun c21 => ?_) (fun c21 => ?_)
          · replace h := ite_t h c21
            refine lv_iconst (v := 0) hx hb dX4_openLift_37 (by decide) ?_
            obtain rfl := Option.some.inj h
            exact hJ38 _ _ _ hW (lv_sub hl [0, 1] rfl)
          · replace h := ite_f h c21
            refine lv_aload_n hx hb dX4_openLift_24 rfl (lv_at hl 0 rfl) ?_
            refine wd_get hC i4 hW 34 wC_c34 rfl 9 (Nat.le_of_ble_eq_true rfl) f38 rfl rfl dX4_openLift_25 ?_
            refine lv_iload_n hx hb dX4_openLift_28 rfl (lv_at hl 1 rfl) ?_
            obtain ⟨hi22, h⟩ := ck_of h
            refine wd_zald hC hW 38 wC_c38 hi22 dX4_openLift_29 ?_
            refine lv_if_ne (tgt := 37) hx hb dX4_openLift_30 (by decide) (fun c23 => ?_) (fun c23 => ?_)
            · replace h := ite_f h c23
              refine lv_iconst (v := 0) hx hb dX4_openLift_37 (by decide) ?_
              obtain rfl := Option.some.inj h
              exact hJ38 _ _ _ hW (lv_sub hl [0, 1] rfl)
            · replace h := ite_t h c23
              refine lv_iconst (v := 1) hx hb dX4_openLift_33 (by decide) ?_
              refine lv_goto (tgt := 38) hx hb dX4_openLift_34 (by decide) ?_
              obtain rfl := Option.some.inj h
              exact hJ38 _ _ _ hW (lv_sub hl [0, 1] rfl)
  obtain ⟨q1, hq2, h⟩ := bd_of h
  refine hL2 n S 0  _ _ _ q1 hq2 hW (lv_sub hl [1, 0] rfl) (fun H locs ls hW hl => ?_)
  refine lv_aload_n hx hb dX4_openLift_89 rfl (lv_at hl 0 rfl) ?_
  refine lv_iconst (v := 0) hx hb dX4_openLift_90 (by decide) ?_
  obtain ⟨r24, hr25, h⟩ := bd_of h
  refine wd_callV0 (As := [.int 0]) hC hW 34 wC_c34 rfl (c_X4_openRoundD l D cy ad X n q1 0 r24 hr25) (cwV 1 hts (gu_V w_9_6 w_9_3 w_9_4 w_9_5 w_1_23) rfl rfl rfl hdX4_openRound ⟨Nat.le_of_ble_eq_true rfl, Nat.le_of_ble_eq_true rfl⟩) rfl hl.1 rfl (Nat.le_of_ble_eq_true rfl) ⟨Nat.zero_le _, Nat.zero_le _⟩ dX4_openLift_91 (fun H locs hW => ?_)
  obtain rfl := Option.some.inj h
  exact wd_vret hA hQ hC hr hk hW dX4_openLift_94
def m_X4_closeLift_L2 (ib ab : Nat) : Nat → St → Int32 → Option (St)
  | 0, _, _ => none
  | n + 1, S, x1 =>
    if (S.1 (ib + 0)) ≤ x1 then (some S) else (ck ((x1 * 3) + (S.1 (ib + 2))) 18 (if (S.2.1 (ab + 5) ((x1 * 3) + (S.1 (ib + 2))).toNatClampNeg) = 0 then (ck x1 6 (nm (sA S (ab + 4) x1.toNatClampNeg 1) (fun S7 => m_X4_closeLift_L2 ib ab n S7 (x1 + 1)))) else (m_X4_closeLift_L2 ib ab n S (x1 + 1))))
theorem m_X4_closeLift_L2_0 {ib ab : Nat} (S : St) (x1 : Int32) : m_X4_closeLift_L2 ib ab 0 S x1 = none := rfl
theorem m_X4_closeLift_L2_s {ib ab : Nat} {n : Nat} {S : St} {x1 : Int32} : m_X4_closeLift_L2 ib ab (n + 1) S x1 =
    (if (S.1 (ib + 0)) ≤ x1 then (some S) else (ck ((x1 * 3) + (S.1 (ib + 2))) 18 (if (S.2.1 (ab + 5) ((x1 * 3) + (S.1 (ib + 2))).toNatClampNeg) = 0 then (ck x1 6 (nm (sA S (ab + 4) x1.toNatClampNeg 1) (fun S7 => m_X4_closeLift_L2 ib ab n S7 (x1 + 1)))) else (m_X4_closeLift_L2 ib ab n S (x1 + 1))))) := rfl
def m_X4_closeLift (ib ab : Nat) (n : Nat) (S : St) : Option (St) :=
  (m_X4_closeLift_L2 ib ab n S 0).bind (fun q1 => nm (sI q1 (ib + 2) ((q1.1 (ib + 2)) + 1)) (fun S9 => (m_X4_openLift ib ab n S9).bind (fun r11 => some r11)))
set_option maxHeartbeats 4000000 in
set_option maxRecDepth 100000 in
theorem c_X4_closeLiftM (l : Launch) (D : va_G) (cy : Nat → ClassId) (ad : Nat → Nat) (X : va_W) (n : Nat) (S : St) (r : (St)) (h : m_X4_closeLift 30 25 n S = some r) : CT l yX4_closeLift (wu yX4_closeLift cX4_closeLift 2 none) 2 D cy [.ref (ad 25)] (wC ad cy S ++ X) (none) (wC ad cy r ++ X) := by
  refine CT.mk (cc := cX4_closeLift) (maxL := 2) (ret := none) (own := RX4) (by decide) rfl rfl (Nat.le_of_ble_eq_true rfl) ?_
  intro p e s m args below meth c ls A Q hA hQ hC hr hk hW hl
  have hx := hC.1
  have hb := hC.2.1
  have hown := hC.2.2.2.1
  have hts := hC.2.2.2.2
  have hl : lv_has ls 2 [(0, .ref (ad 25))] := hl
  have f9 := hts _ (wu_in w_3_14)
  have i4 := (fun w h => wu_in (inc_4 w h) : ∀ w ∈ u_ws RX4 TX4 16, w ∈ (wu yX4_closeLift cX4_closeLift 2 none))
  have f41 := hts _ (wu_in w_4_0)
  have f18 := hts _ (wu_in w_3_16)
  have f38 := hts _ (wu_in w_3_23)
  unfold m_X4_closeLift at h
  refine lv_iconst (v := 0) hx hb dX4_closeLift_0 (by decide) ?_
  refine lv_istore_n (lv' := [(1, .int 0), (0, .ref (ad 25))]) hx hb dX4_closeLift_1 rfl hl (by decide) rfl (fun ls hl => ?_)
  have hL2 : ∀ (n : Nat) (S : St) (x1 : Int32)  (H : Heap) (locs : List Loc) (ls : Array Slot) (r : (St)), m_X4_closeLift_L2 30 25 n S x1 = some r → Wd D cy A s (wC ad cy S ++ X) H locs → lv_has ls 2 [(0, .ref (ad 25)), (1, .int x1)] → (∀ (H : Heap) (locs : List Loc) (ls : Array Slot), Wd D cy A s (wC ad cy r ++ X) H locs → lv_has ls 2 [(0, .ref (ad 25))] → W p l e (RM 2) s m args below meth c H locs 0 0 Q (F0 m 39 ls [])) → W p l e (RM 2) s m args below meth c H locs 0 0 Q (F0 m 2 ls []) := by
    intro n
    induction n with
    | zero =>
      intro S x1  H locs ls r h
      exact absurd (h.symm.trans (m_X4_closeLift_L2_0 ..)) (by simp)
    | succ n ih =>
      intro S x1  H locs ls r h hW hl kk
      rw [m_X4_closeLift_L2_s] at h
      refine lv_iload_n hx hb dX4_closeLift_2 rfl (lv_at hl 1 rfl) ?_
      refine lv_aload_n hx hb dX4_closeLift_3 rfl (lv_at hl 0 rfl) ?_
      refine wd_get hC i4 hW 25 wC_c25 rfl 1 (Nat.le_of_ble_eq_true rfl) f9 rfl rfl dX4_closeLift_4 ?_
      refine lv_icmp_ge (tgt := 39) hx hb dX4_closeLift_7 (by decide) (fun c3 => ?_) (fun c3 => ?_)
      · replace h := ite_t h c3
        obtain rfl := Option.some.inj h
        exact kk _ _ _ hW (lv_sub hl [0] rfl)
      · replace h := ite_f h c3
        refine lv_aload_n hx hb dX4_closeLift_10 rfl (lv_at hl 0 rfl) ?_
        refine wd_get hC i4 hW 25 wC_c25 rfl 10 (Nat.le_of_ble_eq_true rfl) f41 rfl rfl dX4_closeLift_11 ?_
        refine lv_iload_n hx hb dX4_closeLift_14 rfl (lv_at hl 1 rfl) ?_
        refine lv_iconst (v := 3) hx hb dX4_closeLift_15 (by decide) ?_
        refine lv_imul hx hb dX4_closeLift_16 ?_
        refine lv_aload_n hx hb dX4_closeLift_17 rfl (lv_at hl 0 rfl) ?_
        refine wd_get hC i4 hW 25 wC_c25 rfl 3 (Nat.le_of_ble_eq_true rfl) f18 rfl rfl dX4_closeLift_18 ?_
        refine lv_iadd hx hb dX4_closeLift_21 ?_
        obtain ⟨hi4, h⟩ := ck_of h
        refine wd_iald hC hW 30 wC_c30 hi4 dX4_closeLift_22 ?_
        refine lv_if_ne (tgt := 33) hx hb dX4_closeLift_23 (by decide) (fun c5 => ?_) (fun c5 => ?_)
        · replace h := ite_f h c5
          refine lv_iinc (v := x1 + 1) (lv' := [(1, .int (x1 + 1)), (0, .ref (ad 25))]) hx hb dX4_closeLift_33 hl (k := 1) rfl rfl (by decide) rfl (fun ls hl => ?_)
          refine lv_goto (tgt := 2) hx hb dX4_closeLift_36 (by decide) ?_
          exact ih S (x1 + 1) _ _ _ r h hW (lv_sub hl [1, 0] rfl) kk
        · replace h := ite_t h c5
          refine lv_aload_n hx hb dX4_closeLift_26 rfl (lv_at hl 0 rfl) ?_
          refine wd_get hC i4 hW 25 wC_c25 rfl 9 (Nat.le_of_ble_eq_true rfl) f38 rfl rfl dX4_closeLift_27 ?_
          refine lv_iload_n hx hb dX4_closeLift_30 rfl (lv_at hl 1 rfl) ?_
          refine lv_iconst (v := 1) hx hb dX4_closeLift_31 (by decide) ?_
          obtain ⟨hi6, h⟩ := ck_of h
          refine wd_zast hC hW 29 wC_c29 hi6 rfl wC_t29 dX4_closeLift_32 (fun H locs hW => ?_)
          obtain ⟨S7, e8, h⟩ := nm_of h
          replace hW := wq_S e8 hW
          refine lv_iinc (v := x1 + 1) (lv' := [(1, .int (x1 + 1)), (0, .ref (ad 25))]) hx hb dX4_closeLift_33 hl (k := 1) rfl rfl (by decide) rfl (fun ls hl => ?_)
          refine lv_goto (tgt := 2) hx hb dX4_closeLift_36 (by decide) ?_
          exact ih S7 (x1 + 1) _ _ _ r h hW (lv_sub hl [1, 0] rfl) kk
  obtain ⟨q1, hq2, h⟩ := bd_of h
  refine hL2 n S 0  _ _ _ q1 hq2 hW (lv_sub hl [1, 0] rfl) (fun H locs ls hW hl => ?_)
  refine lv_aload_n hx hb dX4_closeLift_39 rfl (lv_at hl 0 rfl) ?_
  refine lv_dup hx hb dX4_closeLift_40 rfl ?_
  refine wd_get hC i4 hW 25 wC_c25 rfl 3 (Nat.le_of_ble_eq_true rfl) f18 rfl rfl dX4_closeLift_41 ?_
  refine lv_iconst (v := 1) hx hb dX4_closeLift_44 (by decide) ?_
  refine lv_iadd hx hb dX4_closeLift_45 ?_
  refine wd_put hC i4 tyX4_ok nmX4 hW 25 wC_c25 rfl 3 (Nat.le_of_ble_eq_true rfl) f18 rfl rfl rfl rfl (Nat.le_of_ble_eq_true rfl) wC_s25_3 dX4_closeLift_46 (fun H locs hW => ?_)
  obtain ⟨S9, e10, h⟩ := nm_of h
  replace hW := wq_S e10 hW
  refine lv_aload_n hx hb dX4_closeLift_49 rfl (lv_at hl 0 rfl) ?_
  obtain ⟨r11, hr12, h⟩ := bd_of h
  refine wd_callV0 (As := []) hC hW 25 wC_c25 rfl (c_X4_openLiftM l D cy ad X n S9 r11 hr12) (cwV 0 hts (gu_V w_9_1 w_8_22 w_8_23 w_9_0 w_1_23) rfl rfl rfl hdX4_openLift ⟨Nat.le_of_ble_eq_true rfl, Nat.le_of_ble_eq_true rfl⟩) rfl hl.1 rfl (Nat.le_of_ble_eq_true rfl) ⟨Nat.zero_le _, Nat.zero_le _⟩ dX4_closeLift_50 (fun H locs hW => ?_)
  obtain rfl := Option.some.inj h
  exact wd_vret hA hQ hC hr hk hW dX4_closeLift_53
set_option maxHeartbeats 4000000 in
set_option maxRecDepth 100000 in
theorem c_X4_closeLiftD (l : Launch) (D : va_G) (cy : Nat → ClassId) (ad : Nat → Nat) (X : va_W) (n : Nat) (S : St) (r : (St)) (h : m_X4_closeLift 40 34 n S = some r) : CT l yX4_closeLift (wu yX4_closeLift cX4_closeLift 2 none) 2 D cy [.ref (ad 34)] (wC ad cy S ++ X) (none) (wC ad cy r ++ X) := by
  refine CT.mk (cc := cX4_closeLift) (maxL := 2) (ret := none) (own := RX4) (by decide) rfl rfl (Nat.le_of_ble_eq_true rfl) ?_
  intro p e s m args below meth c ls A Q hA hQ hC hr hk hW hl
  have hx := hC.1
  have hb := hC.2.1
  have hown := hC.2.2.2.1
  have hts := hC.2.2.2.2
  have hl : lv_has ls 2 [(0, .ref (ad 34))] := hl
  have f9 := hts _ (wu_in w_3_14)
  have i4 := (fun w h => wu_in (inc_4 w h) : ∀ w ∈ u_ws RX4 TX4 16, w ∈ (wu yX4_closeLift cX4_closeLift 2 none))
  have f41 := hts _ (wu_in w_4_0)
  have f18 := hts _ (wu_in w_3_16)
  have f38 := hts _ (wu_in w_3_23)
  unfold m_X4_closeLift at h
  refine lv_iconst (v := 0) hx hb dX4_closeLift_0 (by decide) ?_
  refine lv_istore_n (lv' := [(1, .int 0), (0, .ref (ad 34))]) hx hb dX4_closeLift_1 rfl hl (by decide) rfl (fun ls hl => ?_)
  have hL2 : ∀ (n : Nat) (S : St) (x1 : Int32)  (H : Heap) (locs : List Loc) (ls : Array Slot) (r : (St)), m_X4_closeLift_L2 40 34 n S x1 = some r → Wd D cy A s (wC ad cy S ++ X) H locs → lv_has ls 2 [(0, .ref (ad 34)), (1, .int x1)] → (∀ (H : Heap) (locs : List Loc) (ls : Array Slot), Wd D cy A s (wC ad cy r ++ X) H locs → lv_has ls 2 [(0, .ref (ad 34))] → W p l e (RM 2) s m args below meth c H locs 0 0 Q (F0 m 39 ls [])) → W p l e (RM 2) s m args below meth c H locs 0 0 Q (F0 m 2 ls []) := by
    intro n
    induction n with
    | zero =>
      intro S x1  H locs ls r h
      exact absurd (h.symm.trans (m_X4_closeLift_L2_0 ..)) (by simp)
    | succ n ih =>
      intro S x1  H locs ls r h hW hl kk
      rw [m_X4_closeLift_L2_s] at h
      refine lv_iload_n hx hb dX4_closeLift_2 rfl (lv_at hl 1 rfl) ?_
      refine lv_aload_n hx hb dX4_closeLift_3 rfl (lv_at hl 0 rfl) ?_
      refine wd_get hC i4 hW 34 wC_c34 rfl 1 (Nat.le_of_ble_eq_true rfl) f9 rfl rfl dX4_closeLift_4 ?_
      refine lv_icmp_ge (tgt := 39) hx hb dX4_closeLift_7 (by decide) (fun c3 => ?_) (fun c3 => ?_)
      · replace h := ite_t h c3
        obtain rfl := Option.some.inj h
        exact kk _ _ _ hW (lv_sub hl [0] rfl)
      · replace h := ite_f h c3
        refine lv_aload_n hx hb dX4_closeLift_10 rfl (lv_at hl 0 rfl) ?_
        refine wd_get hC i4 hW 34 wC_c34 rfl 10 (Nat.le_of_ble_eq_true rfl) f41 rfl rfl dX4_closeLift_11 ?_
        refine lv_iload_n hx hb dX4_closeLift_14 rfl (lv_at hl 1 rfl) ?_
        refine lv_iconst (v := 3) hx hb dX4_closeLift_15 (by decide) ?_
        refine lv_imul hx hb dX4_closeLift_16 ?_
        refine lv_aload_n hx hb dX4_closeLift_17 rfl (lv_at hl 0 rfl) ?_
        refine wd_get hC i4 hW 34 wC_c34 rfl 3 (Nat.le_of_ble_eq_true rfl) f18 rfl rfl dX4_closeLift_18 ?_
        refine lv_iadd hx hb dX4_closeLift_21 ?_
        obtain ⟨hi4, h⟩ := ck_of h
        refine wd_iald hC hW 39 wC_c39 hi4 dX4_closeLift_22 ?_
        refine lv_if_ne (tgt := 33) hx hb dX4_closeLift_23 (by decide) (fun c5 => ?_) (fun c5 => ?_)
        · replace h := ite_f h c5
          refine lv_iinc (v := x1 + 1) (lv' := [(1, .int (x1 + 1)), (0, .ref (ad 34))]) hx hb dX4_closeLift_33 hl (k := 1) rfl rfl (by decide) rfl (fun ls hl => ?_)
          refine lv_goto (tgt := 2) hx hb dX4_closeLift_36 (by decide) ?_
          exact ih S (x1 + 1) _ _ _ r h hW (lv_sub hl [1, 0] rfl) kk
        · replace h := ite_t h c5
          refine lv_aload_n hx hb dX4_closeLift_26 rfl (lv_at hl 0 rfl) ?_
          refine wd_get hC i4 hW 34 wC_c34 rfl 9 (Nat.le_of_ble_eq_true rfl) f38 rfl rfl dX4_closeLift_27 ?_
          refine lv_iload_n hx hb dX4_closeLift_30 rfl (lv_at hl 1 rfl) ?_
          refine lv_iconst (v := 1) hx hb dX4_closeLift_31 (by decide) ?_
          obtain ⟨hi6, h⟩ := ck_of h
          refine wd_zast hC hW 38 wC_c38 hi6 rfl wC_t38 dX4_closeLift_32 (fun H locs hW => ?_)
          obtain ⟨S7, e8, h⟩ := nm_of h
          replace hW := wq_S e8 hW
          refine lv_iinc (v := x1 + 1) (lv' := [(1, .int (x1 + 1)), (0, .ref (ad 34))]) hx hb dX4_closeLift_33 hl (k := 1) rfl rfl (by decide) rfl (fun ls hl => ?_)
          refine lv_goto (tgt := 2) hx hb dX4_closeLift_36 (by decide) ?_
          exact ih S7 (x1 + 1) _ _ _ r h hW (lv_sub hl [1, 0] rfl) kk
  obtain ⟨q1, hq2, h⟩ := bd_of h
  refine hL2 n S 0  _ _ _ q1 hq2 hW (lv_sub hl [1, 0] rfl) (fun H locs ls hW hl => ?_)
  refine lv_aload_n hx hb dX4_closeLift_39 rfl (lv_at hl 0 rfl) ?_
  refine lv_dup hx hb dX4_closeLift_40 rfl ?_
  refine wd_get hC i4 hW 34 wC_c34 rfl 3 (Nat.le_of_ble_eq_true rfl) f18 rfl rfl dX4_closeLift_41 ?_
  refine lv_iconst (v := 1) hx hb dX4_closeLift_44 (by decide) ?_
  refine lv_iadd hx hb dX4_closeLift_45 ?_
  refine wd_put hC i4 tyX4_ok nmX4 hW 34 wC_c34 rfl 3 (Nat.le_of_ble_eq_true rfl) f18 rfl rfl rfl rfl (Nat.le_of_ble_eq_true rfl) wC_s34_3 dX4_closeLift_46 (fun H locs hW => ?_)
  obtain ⟨S9, e10, h⟩ := nm_of h
  replace hW := wq_S e10 hW
  refine lv_aload_n hx hb dX4_closeLift_49 rfl (lv_at hl 0 rfl) ?_
  obtain ⟨r11, hr12, h⟩ := bd_of h
  refine wd_callV0 (As := []) hC hW 34 wC_c34 rfl (c_X4_openLiftD l D cy ad X n S9 r11 hr12) (cwV 0 hts (gu_V w_9_1 w_8_22 w_8_23 w_9_0 w_1_23) rfl rfl rfl hdX4_openLift ⟨Nat.le_of_ble_eq_true rfl, Nat.le_of_ble_eq_true rfl⟩) rfl hl.1 rfl (Nat.le_of_ble_eq_true rfl) ⟨Nat.zero_le _, Nat.zero_le _⟩ dX4_closeLift_50 (fun H locs hW => ?_)
  obtain rfl := Option.some.inj h
  exact wd_vret hA hQ hC hr hk hW dX4_closeLift_53
def m_X4_goOn_L2 (ib ab : Nat) : Nat → St → Int32 → Option (St)
  | 0, _, _ => none
  | n + 1, S, x1 =>
    if 9 ≤ x1 then (some S) else (if (S.1 (ib + 0)) ≤ 0 then (some S) else (if 3 ≤ (S.1 (ib + 2)) then (some S) else ((m_X4_next ib ab n S).bind (fun r6 => if 0 ≤ r6 then (some S) else (if 2 ≤ (S.1 (ib + 3)) then ((m_X4_closeLift ib ab n S).bind (fun r10 => m_X4_goOn_L2 ib ab n r10 (x1 + 1))) else ((m_X4_openRound ib ab n S ((S.1 (ib + 3)) + 1)).bind (fun r12 => m_X4_goOn_L2 ib ab n r12 (x1 + 1))))))))
theorem m_X4_goOn_L2_0 {ib ab : Nat} (S : St) (x1 : Int32) : m_X4_goOn_L2 ib ab 0 S x1 = none := rfl
theorem m_X4_goOn_L2_s {ib ab : Nat} {n : Nat} {S : St} {x1 : Int32} : m_X4_goOn_L2 ib ab (n + 1) S x1 =
    (if 9 ≤ x1 then (some S) else (if (S.1 (ib + 0)) ≤ 0 then (some S) else (if 3 ≤ (S.1 (ib + 2)) then (some S) else ((m_X4_next ib ab n S).bind (fun r6 => if 0 ≤ r6 then (some S) else (if 2 ≤ (S.1 (ib + 3)) then ((m_X4_closeLift ib ab n S).bind (fun r10 => m_X4_goOn_L2 ib ab n r10 (x1 + 1))) else ((m_X4_openRound ib ab n S ((S.1 (ib + 3)) + 1)).bind (fun r12 => m_X4_goOn_L2 ib ab n r12 (x1 + 1))))))))) := rfl
def m_X4_goOn (ib ab : Nat) (n : Nat) (S : St) : Option (St) :=
  (m_X4_goOn_L2 ib ab n S 0).bind (fun q1 => some q1)
set_option maxHeartbeats 4000000 in
set_option maxRecDepth 100000 in
theorem c_X4_goOnM (l : Launch) (D : va_G) (cy : Nat → ClassId) (ad : Nat → Nat) (X : va_W) (n : Nat) (S : St) (r : (St)) (h : m_X4_goOn 30 25 n S = some r) : CT l yX4_goOn (wu yX4_goOn cX4_goOn 2 none) 3 D cy [.ref (ad 25)] (wC ad cy S ++ X) (none) (wC ad cy r ++ X) := by
  refine CT.mk (cc := cX4_goOn) (maxL := 2) (ret := none) (own := RX4) (by decide) rfl rfl (Nat.le_of_ble_eq_true rfl) ?_
  intro p e s m args below meth c ls A Q hA hQ hC hr hk hW hl
  have hx := hC.1
  have hb := hC.2.1
  have hown := hC.2.2.2.1
  have hts := hC.2.2.2.2
  have hl : lv_has ls 2 [(0, .ref (ad 25))] := hl
  have f9 := hts _ (wu_in w_3_14)
  have i4 := (fun w h => wu_in (inc_4 w h) : ∀ w ∈ u_ws RX4 TX4 16, w ∈ (wu yX4_goOn cX4_goOn 2 none))
  have f18 := hts _ (wu_in w_3_16)
  have f21 := hts _ (wu_in w_3_17)
  unfold m_X4_goOn at h
  refine lv_iconst (v := 0) hx hb dX4_goOn_0 (by decide) ?_
  refine lv_istore_n (lv' := [(1, .int 0), (0, .ref (ad 25))]) hx hb dX4_goOn_1 rfl hl (by decide) rfl (fun ls hl => ?_)
  have hL2 : ∀ (n : Nat) (S : St) (x1 : Int32)  (H : Heap) (locs : List Loc) (ls : Array Slot) (r : (St)), m_X4_goOn_L2 30 25 n S x1 = some r → Wd D cy A s (wC ad cy S ++ X) H locs → lv_has ls 2 [(0, .ref (ad 25)), (1, .int x1)] → (∀ (H : Heap) (locs : List Loc) (ls : Array Slot), Wd D cy A s (wC ad cy r ++ X) H locs → lv_has ls 2 [(0, .ref (ad 25))] → W p l e (RM 3) s m args below meth c H locs 0 0 Q (F0 m 61 ls [])) → W p l e (RM 3) s m args below meth c H locs 0 0 Q (F0 m 2 ls []) := by
    intro n
    induction n with
    | zero =>
      intro S x1  H locs ls r h
      exact absurd (h.symm.trans (m_X4_goOn_L2_0 ..)) (by simp)
    | succ n ih =>
      intro S x1  H locs ls r h hW hl kk
      rw [m_X4_goOn_L2_s] at h
      refine lv_iload_n hx hb dX4_goOn_2 rfl (lv_at hl 1 rfl) ?_
      refine lv_bipush (v := 9) hx hb dX4_goOn_3 (by decide) ?_
      refine lv_icmp_ge (tgt := 61) hx hb dX4_goOn_5 (by decide) (fun c3 => ?_) (fun c3 => ?_)
      · replace h := ite_t h c3
        obtain rfl := Option.some.inj h
        exact kk _ _ _ hW (lv_sub hl [0] rfl)
      · replace h := ite_f h c3
        refine lv_aload_n hx hb dX4_goOn_8 rfl (lv_at hl 0 rfl) ?_
        refine wd_get hC i4 hW 25 wC_c25 rfl 1 (Nat.le_of_ble_eq_true rfl) f9 rfl rfl dX4_goOn_9 ?_
        refine lv_if_le (tgt := 61) hx hb dX4_goOn_12 (by decide) (fun c4 => ?_) (fun c4 => ?_)
        · replace h := ite_t h c4
          obtain rfl := Option.some.inj h
          exact kk _ _ _ hW (lv_sub hl [0] rfl)
        · replace h := ite_f h c4
          refine lv_aload_n hx hb dX4_goOn_15 rfl (lv_at hl 0 rfl) ?_
          refine wd_get hC i4 hW 25 wC_c25 rfl 3 (Nat.le_of_ble_eq_true rfl) f18 rfl rfl dX4_goOn_16 ?_
          refine lv_iconst (v := 3) hx hb dX4_goOn_19 (by decide) ?_
          refine lv_icmp_ge (tgt := 61) hx hb dX4_goOn_20 (by decide) (fun c5 => ?_) (fun c5 => ?_)
          · replace h := ite_t h c5
            obtain rfl := Option.some.inj h
            exact kk _ _ _ hW (lv_sub hl [0] rfl)
          · replace h := ite_f h c5
            refine lv_aload_n hx hb dX4_goOn_23 rfl (lv_at hl 0 rfl) ?_
            obtain ⟨r6, hr7, h⟩ := bd_of h
            refine wd_callV1 (As := []) hC hW 25 wC_c25 rfl (c_X4_nextM l D cy ad X n S r6 hr7) (cwV 0 hts (gu_V w_18_6 w_21_0 w_18_4 w_18_5 w_1_23) rfl rfl rfl hdX4_next ⟨Nat.le_of_ble_eq_true rfl, Nat.le_of_ble_eq_true rfl⟩) rfl hl.1 rfl (Nat.le_of_ble_eq_true rfl) ⟨Nat.zero_le _, Nat.zero_le _⟩ dX4_goOn_24 (fun H locs hW => ?_)
            refine lv_if_ge (tgt := 61) hx hb dX4_goOn_27 (by decide) (fun c8 => ?_) (fun c8 => ?_)
            · replace h := ite_t h c8
              obtain rfl := Option.some.inj h
              exact kk _ _ _ hW (lv_sub hl [0] rfl)
            · replace h := ite_f h c8
              refine lv_aload_n hx hb dX4_goOn_30 rfl (lv_at hl 0 rfl) ?_
              refine wd_get hC i4 hW 25 wC_c25 rfl 4 (Nat.le_of_ble_eq_true rfl) f21 rfl rfl dX4_goOn_31 ?_
              refine lv_iconst (v := 2) hx hb dX4_goOn_34 (by decide) ?_
              refine lv_icmp_ge (tgt := 51) hx hb dX4_goOn_35 (by decide) (fun c9 => ?_) (fun c9 => ?_)
              · replace h := ite_t h c9
                refine lv_aload_n hx hb dX4_goOn_51 rfl (lv_at hl 0 rfl) ?_
                obtain ⟨r10, hr11, h⟩ := bd_of h
                refine wd_callV0 (As := []) hC hW 25 wC_c25 rfl (c_X4_closeLiftM l D cy ad X n S r10 hr11) (cwV 0 hts (gu_V w_21_4 w_21_1 w_21_2 w_21_3 w_1_23) rfl rfl rfl hdX4_closeLift ⟨Nat.le_of_ble_eq_true rfl, Nat.le_of_ble_eq_true rfl⟩) rfl hl.1 rfl (Nat.le_of_ble_eq_true rfl) ⟨Nat.zero_le _, Nat.zero_le _⟩ dX4_goOn_52 (fun H locs hW => ?_)
                refine lv_iinc (v := x1 + 1) (lv' := [(1, .int (x1 + 1)), (0, .ref (ad 25))]) hx hb dX4_goOn_55 hl (k := 1) rfl rfl (by decide) rfl (fun ls hl => ?_)
                refine lv_goto (tgt := 2) hx hb dX4_goOn_58 (by decide) ?_
                exact ih r10 (x1 + 1) _ _ _ r h hW (lv_sub hl [1, 0] rfl) kk
              · replace h := ite_f h c9
                refine lv_aload_n hx hb dX4_goOn_38 rfl (lv_at hl 0 rfl) ?_
                refine lv_aload_n hx hb dX4_goOn_39 rfl (lv_at hl 0 rfl) ?_
                refine wd_get hC i4 hW 25 wC_c25 rfl 4 (Nat.le_of_ble_eq_true rfl) f21 rfl rfl dX4_goOn_40 ?_
                refine lv_iconst (v := 1) hx hb dX4_goOn_43 (by decide) ?_
                refine lv_iadd hx hb dX4_goOn_44 ?_
                obtain ⟨r12, hr13, h⟩ := bd_of h
                refine wd_callV0 (As := [.int ((S.1 33) + 1)]) hC hW 25 wC_c25 rfl (c_X4_openRoundM l D cy ad X n S ((S.1 33) + 1) r12 hr13) (cwV 1 hts (gu_V w_9_6 w_9_3 w_9_4 w_9_5 w_1_23) rfl rfl rfl hdX4_openRound ⟨Nat.le_of_ble_eq_true rfl, Nat.le_of_ble_eq_true rfl⟩) rfl hl.1 rfl (Nat.le_of_ble_eq_true rfl) ⟨Nat.zero_le _, Nat.zero_le _⟩ dX4_goOn_45 (fun H locs hW => ?_)
                refine lv_goto (tgt := 55) hx hb dX4_goOn_48 (by decide) ?_
                refine lv_iinc (v := x1 + 1) (lv' := [(1, .int (x1 + 1)), (0, .ref (ad 25))]) hx hb dX4_goOn_55 hl (k := 1) rfl rfl (by decide) rfl (fun ls hl => ?_)
                refine lv_goto (tgt := 2) hx hb dX4_goOn_58 (by decide) ?_
                exact ih r12 (x1 + 1) _ _ _ r h hW (lv_sub hl [1, 0] rfl) kk
  obtain ⟨q1, hq2, h⟩ := bd_of h
  refine hL2 n S 0  _ _ _ q1 hq2 hW (lv_sub hl [1, 0] rfl) (fun H locs ls hW hl => ?_)
  obtain rfl := Option.some.inj h
  exact wd_vret hA hQ hC hr hk hW dX4_goOn_61
set_option maxHeartbeats 4000000 in
set_option maxRecDepth 100000 in
theorem c_X4_goOnD (l : Launch) (D : va_G) (cy : Nat → ClassId) (ad : Nat → Nat) (X : va_W) (n : Nat) (S : St) (r : (St)) (h : m_X4_goOn 40 34 n S = some r) : CT l yX4_goOn (wu yX4_goOn cX4_goOn 2 none) 3 D cy [.ref (ad 34)] (wC ad cy S ++ X) (none) (wC ad cy r ++ X) := by
  refine CT.mk (cc := cX4_goOn) (maxL := 2) (ret := none) (own := RX4) (by decide) rfl rfl (Nat.le_of_ble_eq_true rfl) ?_
  intro p e s m args below meth c ls A Q hA hQ hC hr hk hW hl
  have hx := hC.1
  have hb := hC.2.1
  have hown := hC.2.2.2.1
  have hts := hC.2.2.2.2
  have hl : lv_has ls 2 [(0, .ref (ad 34))] := hl
  have f9 := hts _ (wu_in w_3_14)
  have i4 := (fun w h => wu_in (inc_4 w h) : ∀ w ∈ u_ws RX4 TX4 16, w ∈ (wu yX4_goOn cX4_goOn 2 none))
  have f18 := hts _ (wu_in w_3_16)
  have f21 := hts _ (wu_in w_3_17)
  unfold m_X4_goOn at h
  refine lv_iconst (v := 0) hx hb dX4_goOn_0 (by decide) ?_
  refine lv_istore_n (lv' := [(1, .int 0), (0, .ref (ad 34))]) hx hb dX4_goOn_1 rfl hl (by decide) rfl (fun ls hl => ?_)
  have hL2 : ∀ (n : Nat) (S : St) (x1 : Int32)  (H : Heap) (locs : List Loc) (ls : Array Slot) (r : (St)), m_X4_goOn_L2 40 34 n S x1 = some r → Wd D cy A s (wC ad cy S ++ X) H locs → lv_has ls 2 [(0, .ref (ad 34)), (1, .int x1)] → (∀ (H : Heap) (locs : List Loc) (ls : Array Slot), Wd D cy A s (wC ad cy r ++ X) H locs → lv_has ls 2 [(0, .ref (ad 34))] → W p l e (RM 3) s m args below meth c H locs 0 0 Q (F0 m 61 ls [])) → W p l e (RM 3) s m args below meth c H locs 0 0 Q (F0 m 2 ls []) := by
    intro n
    induction n with
    | zero =>
      intro S x1  H locs ls r h
      exact absurd (h.symm.trans (m_X4_goOn_L2_0 ..)) (by simp)
    | succ n ih =>
      intro S x1  H locs ls r h hW hl kk
      rw [m_X4_goOn_L2_s] at h
      refine lv_iload_n hx hb dX4_goOn_2 rfl (lv_at hl 1 rfl) ?_
      refine lv_bipush (v := 9) hx hb dX4_goOn_3 (by decide) ?_
      refine lv_icmp_ge (tgt := 61) hx hb dX4_goOn_5 (by decide) (fun c3 => ?_) (fun c3 => ?_)
      · replace h := ite_t h c3
        obtain rfl := Option.some.inj h
        exact kk _ _ _ hW (lv_sub hl [0] rfl)
      · replace h := ite_f h c3
        refine lv_aload_n hx hb dX4_goOn_8 rfl (lv_at hl 0 rfl) ?_
        refine wd_get hC i4 hW 34 wC_c34 rfl 1 (Nat.le_of_ble_eq_true rfl) f9 rfl rfl dX4_goOn_9 ?_
        refine lv_if_le (tgt := 61) hx hb dX4_goOn_12 (by decide) (fun c4 => ?_) (fun c4 => ?_)
        · replace h := ite_t h c4
          obtain rfl := Option.some.inj h
          exact kk _ _ _ hW (lv_sub hl [0] rfl)
        · replace h := ite_f h c4
          refine lv_aload_n hx hb dX4_goOn_15 rfl (lv_at hl 0 rfl) ?_
          refine wd_get hC i4 hW 34 wC_c34 rfl 3 (Nat.le_of_ble_eq_true rfl) f18 rfl rfl dX4_goOn_16 ?_
          refine lv_iconst (v := 3) hx hb dX4_goOn_19 (by decide) ?_
          refine lv_icmp_ge (tgt := 61) hx hb dX4_goOn_20 (by decide) (fun c5 => ?_) (fun c5 => ?_)
          · replace h := ite_t h c5
            obtain rfl := Option.some.inj h
            exact kk _ _ _ hW (lv_sub hl [0] rfl)
          · replace h := ite_f h c5
            refine lv_aload_n hx hb dX4_goOn_23 rfl (lv_at hl 0 rfl) ?_
            obtain ⟨r6, hr7, h⟩ := bd_of h
            refine wd_callV1 (As := []) hC hW 34 wC_c34 rfl (c_X4_nextD l D cy ad X n S r6 hr7) (cwV 0 hts (gu_V w_18_6 w_21_0 w_18_4 w_18_5 w_1_23) rfl rfl rfl hdX4_next ⟨Nat.le_of_ble_eq_true rfl, Nat.le_of_ble_eq_true rfl⟩) rfl hl.1 rfl (Nat.le_of_ble_eq_true rfl) ⟨Nat.zero_le _, Nat.zero_le _⟩ dX4_goOn_24 (fun H locs hW => ?_)
            refine lv_if_ge (tgt := 61) hx hb dX4_goOn_27 (by decide) (fun c8 => ?_) (fun c8 => ?_)
            · replace h := ite_t h c8
              obtain rfl := Option.some.inj h
              exact kk _ _ _ hW (lv_sub hl [0] rfl)
            · replace h := ite_f h c8
              refine lv_aload_n hx hb dX4_goOn_30 rfl (lv_at hl 0 rfl) ?_
              refine wd_get hC i4 hW 34 wC_c34 rfl 4 (Nat.le_of_ble_eq_true rfl) f21 rfl rfl dX4_goOn_31 ?_
              refine lv_iconst (v := 2) hx hb dX4_goOn_34 (by decide) ?_
              refine lv_icmp_ge (tgt := 51) hx hb dX4_goOn_35 (by decide) (fun c9 => ?_) (fun c9 => ?_)
              · replace h := ite_t h c9
                refine lv_aload_n hx hb dX4_goOn_51 rfl (lv_at hl 0 rfl) ?_
                obtain ⟨r10, hr11, h⟩ := bd_of h
                refine wd_callV0 (As := []) hC hW 34 wC_c34 rfl (c_X4_closeLiftD l D cy ad X n S r10 hr11) (cwV 0 hts (gu_V w_21_4 w_21_1 w_21_2 w_21_3 w_1_23) rfl rfl rfl hdX4_closeLift ⟨Nat.le_of_ble_eq_true rfl, Nat.le_of_ble_eq_true rfl⟩) rfl hl.1 rfl (Nat.le_of_ble_eq_true rfl) ⟨Nat.zero_le _, Nat.zero_le _⟩ dX4_goOn_52 (fun H locs hW => ?_)
                refine lv_iinc (v := x1 + 1) (lv' := [(1, .int (x1 + 1)), (0, .ref (ad 34))]) hx hb dX4_goOn_55 hl (k := 1) rfl rfl (by decide) rfl (fun ls hl => ?_)
                refine lv_goto (tgt := 2) hx hb dX4_goOn_58 (by decide) ?_
                exact ih r10 (x1 + 1) _ _ _ r h hW (lv_sub hl [1, 0] rfl) kk
              · replace h := ite_f h c9
                refine lv_aload_n hx hb dX4_goOn_38 rfl (lv_at hl 0 rfl) ?_
                refine lv_aload_n hx hb dX4_goOn_39 rfl (lv_at hl 0 rfl) ?_
                refine wd_get hC i4 hW 34 wC_c34 rfl 4 (Nat.le_of_ble_eq_true rfl) f21 rfl rfl dX4_goOn_40 ?_
                refine lv_iconst (v := 1) hx hb dX4_goOn_43 (by decide) ?_
                refine lv_iadd hx hb dX4_goOn_44 ?_
                obtain ⟨r12, hr13, h⟩ := bd_of h
                refine wd_callV0 (As := [.int ((S.1 43) + 1)]) hC hW 34 wC_c34 rfl (c_X4_openRoundD l D cy ad X n S ((S.1 43) + 1) r12 hr13) (cwV 1 hts (gu_V w_9_6 w_9_3 w_9_4 w_9_5 w_1_23) rfl rfl rfl hdX4_openRound ⟨Nat.le_of_ble_eq_true rfl, Nat.le_of_ble_eq_true rfl⟩) rfl hl.1 rfl (Nat.le_of_ble_eq_true rfl) ⟨Nat.zero_le _, Nat.zero_le _⟩ dX4_goOn_45 (fun H locs hW => ?_)
                refine lv_goto (tgt := 55) hx hb dX4_goOn_48 (by decide) ?_
                refine lv_iinc (v := x1 + 1) (lv' := [(1, .int (x1 + 1)), (0, .ref (ad 34))]) hx hb dX4_goOn_55 hl (k := 1) rfl rfl (by decide) rfl (fun ls hl => ?_)
                refine lv_goto (tgt := 2) hx hb dX4_goOn_58 (by decide) ?_
                exact ih r12 (x1 + 1) _ _ _ r h hW (lv_sub hl [1, 0] rfl) kk
  obtain ⟨q1, hq2, h⟩ := bd_of h
  refine hL2 n S 0  _ _ _ q1 hq2 hW (lv_sub hl [1, 0] rfl) (fun H locs ls hW hl => ?_)
  obtain rfl := Option.some.inj h
  exact wd_vret hA hQ hC hr hk hW dX4_goOn_61
def m_X4_open_L17 (ib ab : Nat) : Nat → St → Int32 → Option (St)
  | 0, _, _ => none
  | n + 1, S, x1 =>
    if 6 ≤ x1 then (some S) else (ck x1 6 (nm (sA S (ab + 4) x1.toNatClampNeg 0) (fun S11 => m_X4_open_L17 ib ab n S11 (x1 + 1))))
theorem m_X4_open_L17_0 {ib ab : Nat} (S : St) (x1 : Int32) : m_X4_open_L17 ib ab 0 S x1 = none := rfl
theorem m_X4_open_L17_s {ib ab : Nat} {n : Nat} {S : St} {x1 : Int32} : m_X4_open_L17 ib ab (n + 1) S x1 =
    (if 6 ≤ x1 then (some S) else (ck x1 6 (nm (sA S (ab + 4) x1.toNatClampNeg 0) (fun S11 => m_X4_open_L17 ib ab n S11 (x1 + 1))))) := rfl
def m_X4_open_L38 (ib ab : Nat) : Nat → St → Int32 → Option (St)
  | 0, _, _ => none
  | n + 1, S, x1 =>
    if 18 ≤ x1 then (some S) else (ck x1 18 (nm (sA S (ab + 5) x1.toNatClampNeg 0) (fun S17 => m_X4_open_L38 ib ab n S17 (x1 + 1))))
theorem m_X4_open_L38_0 {ib ab : Nat} (S : St) (x1 : Int32) : m_X4_open_L38 ib ab 0 S x1 = none := rfl
theorem m_X4_open_L38_s {ib ab : Nat} {n : Nat} {S : St} {x1 : Int32} : m_X4_open_L38 ib ab (n + 1) S x1 =
    (if 18 ≤ x1 then (some S) else (ck x1 18 (nm (sA S (ab + 5) x1.toNatClampNeg 0) (fun S17 => m_X4_open_L38 ib ab n S17 (x1 + 1))))) := rfl
def m_X4_open (ib ab : Nat) (n : Nat) (S : St) : Option (St) :=
  nm (sI S (ib + 2) 0) (fun S1 => nm (sI S1 (ib + 5) 0) (fun S3 => nm (sI S3 (ib + 6) 0) (fun S5 => (m_X4_open_L17 ib ab n S5 0).bind (fun q7 => (m_X4_open_L38 ib ab n q7 0).bind (fun q13 => (m_X4_openLift ib ab n q13).bind (fun r19 => some r19))))))
set_option maxHeartbeats 4000000 in
set_option maxRecDepth 100000 in
theorem c_X4_openM (l : Launch) (D : va_G) (cy : Nat → ClassId) (ad : Nat → Nat) (X : va_W) (n : Nat) (S : St) (r : (St)) (h : m_X4_open 30 25 n S = some r) : CT l yX4_open (wu yX4_open cX4_open 2 none) 2 D cy [.ref (ad 25)] (wC ad cy S ++ X) (none) (wC ad cy r ++ X) := by
  refine CT.mk (cc := cX4_open) (maxL := 2) (ret := none) (own := RX4) (by decide) rfl rfl (Nat.le_of_ble_eq_true rfl) ?_
  intro p e s m args below meth c ls A Q hA hQ hC hr hk hW hl
  have hx := hC.1
  have hb := hC.2.1
  have hown := hC.2.2.2.1
  have hts := hC.2.2.2.2
  have hl : lv_has ls 2 [(0, .ref (ad 25))] := hl
  have f18 := hts _ (wu_in w_3_16)
  have i4 := (fun w h => wu_in (inc_4 w h) : ∀ w ∈ u_ws RX4 TX4 16, w ∈ (wu yX4_open cX4_open 2 none))
  have f53 := hts _ (wu_in w_4_4)
  have f56 := hts _ (wu_in w_4_5)
  have f38 := hts _ (wu_in w_3_23)
  have f41 := hts _ (wu_in w_4_0)
  unfold m_X4_open at h
  refine lv_aload_n hx hb dX4_open_0 rfl (lv_at hl 0 rfl) ?_
  refine lv_iconst (v := 0) hx hb dX4_open_1 (by decide) ?_
  refine wd_put hC i4 tyX4_ok nmX4 hW 25 wC_c25 rfl 3 (Nat.le_of_ble_eq_true rfl) f18 rfl rfl rfl rfl (Nat.le_of_ble_eq_true rfl) wC_s25_3 dX4_open_2 (fun H locs hW => ?_)
  obtain ⟨S1, e2, h⟩ := nm_of h
  replace hW := wq_S e2 hW
  refine lv_aload_n hx hb dX4_open_5 rfl (lv_at hl 0 rfl) ?_
  refine lv_iconst (v := 0) hx hb dX4_open_6 (by decide) ?_
  refine wd_put hC i4 tyX4_ok nmX4 hW 25 wC_c25 rfl 14 (Nat.le_of_ble_eq_true rfl) f53 rfl rfl rfl rfl (Nat.le_of_ble_eq_true rfl) wC_s25_14 dX4_open_7 (fun H locs hW => ?_)
  obtain ⟨S3, e4, h⟩ := nm_of h
  replace hW := wq_S e4 hW
  refine lv_aload_n hx hb dX4_open_10 rfl (lv_at hl 0 rfl) ?_
  refine lv_iconst (v := 0) hx hb dX4_open_11 (by decide) ?_
  refine wd_put hC i4 tyX4_ok nmX4 hW 25 wC_c25 rfl 15 (Nat.le_of_ble_eq_true rfl) f56 rfl rfl rfl rfl (Nat.le_of_ble_eq_true rfl) wC_s25_15 dX4_open_12 (fun H locs hW => ?_)
  obtain ⟨S5, e6, h⟩ := nm_of h
  replace hW := wq_S e6 hW
  refine lv_iconst (v := 0) hx hb dX4_open_15 (by decide) ?_
  refine lv_istore_n (lv' := [(1, .int 0), (0, .ref (ad 25))]) hx hb dX4_open_16 rfl hl (by decide) rfl (fun ls hl => ?_)
  have hL17 : ∀ (n : Nat) (S : St) (x1 : Int32)  (H : Heap) (locs : List Loc) (ls : Array Slot) (r : (St)), m_X4_open_L17 30 25 n S x1 = some r → Wd D cy A s (wC ad cy S ++ X) H locs → lv_has ls 2 [(0, .ref (ad 25)), (1, .int x1)] → (∀ (H : Heap) (locs : List Loc) (ls : Array Slot), Wd D cy A s (wC ad cy r ++ X) H locs → lv_has ls 2 [(0, .ref (ad 25))] → W p l e (RM 2) s m args below meth c H locs 0 0 Q (F0 m 36 ls [])) → W p l e (RM 2) s m args below meth c H locs 0 0 Q (F0 m 17 ls []) := by
    intro n
    induction n with
    | zero =>
      intro S x1  H locs ls r h
      exact absurd (h.symm.trans (m_X4_open_L17_0 ..)) (by simp)
    | succ n ih =>
      intro S x1  H locs ls r h hW hl kk
      rw [m_X4_open_L17_s] at h
      refine lv_iload_n hx hb dX4_open_17 rfl (lv_at hl 1 rfl) ?_
      refine lv_bipush (v := 6) hx hb dX4_open_18 (by decide) ?_
      refine lv_icmp_ge (tgt := 36) hx hb dX4_open_20 (by decide) (fun c9 => ?_) (fun c9 => ?_)
      · replace h := ite_t h c9
        obtain rfl := Option.some.inj h
        exact kk _ _ _ hW (lv_sub hl [0] rfl)
      · replace h := ite_f h c9
        refine lv_aload_n hx hb dX4_open_23 rfl (lv_at hl 0 rfl) ?_
        refine wd_get hC i4 hW 25 wC_c25 rfl 9 (Nat.le_of_ble_eq_true rfl) f38 rfl rfl dX4_open_24 ?_
        refine lv_iload_n hx hb dX4_open_27 rfl (lv_at hl 1 rfl) ?_
        refine lv_iconst (v := 0) hx hb dX4_open_28 (by decide) ?_
        obtain ⟨hi10, h⟩ := ck_of h
        refine wd_zast hC hW 29 wC_c29 hi10 rfl wC_t29 dX4_open_29 (fun H locs hW => ?_)
        obtain ⟨S11, e12, h⟩ := nm_of h
        replace hW := wq_S e12 hW
        refine lv_iinc (v := x1 + 1) (lv' := [(1, .int (x1 + 1)), (0, .ref (ad 25))]) hx hb dX4_open_30 hl (k := 1) rfl rfl (by decide) rfl (fun ls hl => ?_)
        refine lv_goto (tgt := 17) hx hb dX4_open_33 (by decide) ?_
        exact ih S11 (x1 + 1) _ _ _ r h hW (lv_sub hl [1, 0] rfl) kk
  obtain ⟨q7, hq8, h⟩ := bd_of h
  refine hL17 n S5 0  _ _ _ q7 hq8 hW (lv_sub hl [1, 0] rfl) (fun H locs ls hW hl => ?_)
  refine lv_iconst (v := 0) hx hb dX4_open_36 (by decide) ?_
  refine lv_istore_n (lv' := [(1, .int 0), (0, .ref (ad 25))]) hx hb dX4_open_37 rfl hl (by decide) rfl (fun ls hl => ?_)
  have hL38 : ∀ (n : Nat) (S : St) (x1 : Int32)  (H : Heap) (locs : List Loc) (ls : Array Slot) (r : (St)), m_X4_open_L38 30 25 n S x1 = some r → Wd D cy A s (wC ad cy S ++ X) H locs → lv_has ls 2 [(0, .ref (ad 25)), (1, .int x1)] → (∀ (H : Heap) (locs : List Loc) (ls : Array Slot), Wd D cy A s (wC ad cy r ++ X) H locs → lv_has ls 2 [(0, .ref (ad 25))] → W p l e (RM 2) s m args below meth c H locs 0 0 Q (F0 m 60 ls [])) → W p l e (RM 2) s m args below meth c H locs 0 0 Q (F0 m 38 ls []) := by
    intro n
    induction n with
    | zero =>
      intro S x1  H locs ls r h
      exact absurd (h.symm.trans (m_X4_open_L38_0 ..)) (by simp)
    | succ n ih =>
      intro S x1  H locs ls r h hW hl kk
      rw [m_X4_open_L38_s] at h
      refine lv_iload_n hx hb dX4_open_38 rfl (lv_at hl 1 rfl) ?_
      refine lv_aload_n hx hb dX4_open_39 rfl (lv_at hl 0 rfl) ?_
      refine wd_get hC i4 hW 25 wC_c25 rfl 10 (Nat.le_of_ble_eq_true rfl) f41 rfl rfl dX4_open_40 ?_
      refine wd_alen hC hW 30 0 wC_c30 rfl (v := 18) rfl dX4_open_43 ?_
      refine lv_icmp_ge (tgt := 60) hx hb dX4_open_44 (by decide) (fun c15 => ?_) (fun c15 => ?_)
      · replace h := ite_t h c15
        obtain rfl := Option.some.inj h
        exact kk _ _ _ hW (lv_sub hl [0] rfl)
      · replace h := ite_f h c15
        refine lv_aload_n hx hb dX4_open_47 rfl (lv_at hl 0 rfl) ?_
        refine wd_get hC i4 hW 25 wC_c25 rfl 10 (Nat.le_of_ble_eq_true rfl) f41 rfl rfl dX4_open_48 ?_
        refine lv_iload_n hx hb dX4_open_51 rfl (lv_at hl 1 rfl) ?_
        refine lv_iconst (v := 0) hx hb dX4_open_52 (by decide) ?_
        obtain ⟨hi16, h⟩ := ck_of h
        refine wd_iast hC hW 30 wC_c30 hi16 wC_t30 dX4_open_53 (fun H locs hW => ?_)
        obtain ⟨S17, e18, h⟩ := nm_of h
        replace hW := wq_S e18 hW
        refine lv_iinc (v := x1 + 1) (lv' := [(1, .int (x1 + 1)), (0, .ref (ad 25))]) hx hb dX4_open_54 hl (k := 1) rfl rfl (by decide) rfl (fun ls hl => ?_)
        refine lv_goto (tgt := 38) hx hb dX4_open_57 (by decide) ?_
        exact ih S17 (x1 + 1) _ _ _ r h hW (lv_sub hl [1, 0] rfl) kk
  obtain ⟨q13, hq14, h⟩ := bd_of h
  refine hL38 n q7 0  _ _ _ q13 hq14 hW (lv_sub hl [1, 0] rfl) (fun H locs ls hW hl => ?_)
  refine lv_aload_n hx hb dX4_open_60 rfl (lv_at hl 0 rfl) ?_
  obtain ⟨r19, hr20, h⟩ := bd_of h
  refine wd_callV0 (As := []) hC hW 25 wC_c25 rfl (c_X4_openLiftM l D cy ad X n q13 r19 hr20) (cwV 0 hts (gu_V w_9_1 w_8_22 w_8_23 w_9_0 w_1_23) rfl rfl rfl hdX4_openLift ⟨Nat.le_of_ble_eq_true rfl, Nat.le_of_ble_eq_true rfl⟩) rfl hl.1 rfl (Nat.le_of_ble_eq_true rfl) ⟨Nat.zero_le _, Nat.zero_le _⟩ dX4_open_61 (fun H locs hW => ?_)
  obtain rfl := Option.some.inj h
  exact wd_vret hA hQ hC hr hk hW dX4_open_64
set_option maxHeartbeats 4000000 in
set_option maxRecDepth 100000 in
theorem c_X4_openD (l : Launch) (D : va_G) (cy : Nat → ClassId) (ad : Nat → Nat) (X : va_W) (n : Nat) (S : St) (r : (St)) (h : m_X4_open 40 34 n S = some r) : CT l yX4_open (wu yX4_open cX4_open 2 none) 2 D cy [.ref (ad 34)] (wC ad cy S ++ X) (none) (wC ad cy r ++ X) := by
  refine CT.mk (cc := cX4_open) (maxL := 2) (ret := none) (own := RX4) (by decide) rfl rfl (Nat.le_of_ble_eq_true rfl) ?_
  intro p e s m args below meth c ls A Q hA hQ hC hr hk hW hl
  have hx := hC.1
  have hb := hC.2.1
  have hown := hC.2.2.2.1
  have hts := hC.2.2.2.2
  have hl : lv_has ls 2 [(0, .ref (ad 34))] := hl
  have f18 := hts _ (wu_in w_3_16)
  have i4 := (fun w h => wu_in (inc_4 w h) : ∀ w ∈ u_ws RX4 TX4 16, w ∈ (wu yX4_open cX4_open 2 none))
  have f53 := hts _ (wu_in w_4_4)
  have f56 := hts _ (wu_in w_4_5)
  have f38 := hts _ (wu_in w_3_23)
  have f41 := hts _ (wu_in w_4_0)
  unfold m_X4_open at h
  refine lv_aload_n hx hb dX4_open_0 rfl (lv_at hl 0 rfl) ?_
  refine lv_iconst (v := 0) hx hb dX4_open_1 (by decide) ?_
  refine wd_put hC i4 tyX4_ok nmX4 hW 34 wC_c34 rfl 3 (Nat.le_of_ble_eq_true rfl) f18 rfl rfl rfl rfl (Nat.le_of_ble_eq_true rfl) wC_s34_3 dX4_open_2 (fun H locs hW => ?_)
  obtain ⟨S1, e2, h⟩ := nm_of h
  replace hW := wq_S e2 hW
  refine lv_aload_n hx hb dX4_open_5 rfl (lv_at hl 0 rfl) ?_
  refine lv_iconst (v := 0) hx hb dX4_open_6 (by decide) ?_
  refine wd_put hC i4 tyX4_ok nmX4 hW 34 wC_c34 rfl 14 (Nat.le_of_ble_eq_true rfl) f53 rfl rfl rfl rfl (Nat.le_of_ble_eq_true rfl) wC_s34_14 dX4_open_7 (fun H locs hW => ?_)
  obtain ⟨S3, e4, h⟩ := nm_of h
  replace hW := wq_S e4 hW
  refine lv_aload_n hx hb dX4_open_10 rfl (lv_at hl 0 rfl) ?_
  refine lv_iconst (v := 0) hx hb dX4_open_11 (by decide) ?_
  refine wd_put hC i4 tyX4_ok nmX4 hW 34 wC_c34 rfl 15 (Nat.le_of_ble_eq_true rfl) f56 rfl rfl rfl rfl (Nat.le_of_ble_eq_true rfl) wC_s34_15 dX4_open_12 (fun H locs hW => ?_)
  obtain ⟨S5, e6, h⟩ := nm_of h
  replace hW := wq_S e6 hW
  refine lv_iconst (v := 0) hx hb dX4_open_15 (by decide) ?_
  refine lv_istore_n (lv' := [(1, .int 0), (0, .ref (ad 34))]) hx hb dX4_open_16 rfl hl (by decide) rfl (fun ls hl => ?_)
  have hL17 : ∀ (n : Nat) (S : St) (x1 : Int32)  (H : Heap) (locs : List Loc) (ls : Array Slot) (r : (St)), m_X4_open_L17 40 34 n S x1 = some r → Wd D cy A s (wC ad cy S ++ X) H locs → lv_has ls 2 [(0, .ref (ad 34)), (1, .int x1)] → (∀ (H : Heap) (locs : List Loc) (ls : Array Slot), Wd D cy A s (wC ad cy r ++ X) H locs → lv_has ls 2 [(0, .ref (ad 34))] → W p l e (RM 2) s m args below meth c H locs 0 0 Q (F0 m 36 ls [])) → W p l e (RM 2) s m args below meth c H locs 0 0 Q (F0 m 17 ls []) := by
    intro n
    induction n with
    | zero =>
      intro S x1  H locs ls r h
      exact absurd (h.symm.trans (m_X4_open_L17_0 ..)) (by simp)
    | succ n ih =>
      intro S x1  H locs ls r h hW hl kk
      rw [m_X4_open_L17_s] at h
      refine lv_iload_n hx hb dX4_open_17 rfl (lv_at hl 1 rfl) ?_
      refine lv_bipush (v := 6) hx hb dX4_open_18 (by decide) ?_
      refine lv_icmp_ge (tgt := 36) hx hb dX4_open_20 (by decide) (fun c9 => ?_) (fun c9 => ?_)
      · replace h := ite_t h c9
        obtain rfl := Option.some.inj h
        exact kk _ _ _ hW (lv_sub hl [0] rfl)
      · replace h := ite_f h c9
        refine lv_aload_n hx hb dX4_open_23 rfl (lv_at hl 0 rfl) ?_
        refine wd_get hC i4 hW 34 wC_c34 rfl 9 (Nat.le_of_ble_eq_true rfl) f38 rfl rfl dX4_open_24 ?_
        refine lv_iload_n hx hb dX4_open_27 rfl (lv_at hl 1 rfl) ?_
        refine lv_iconst (v := 0) hx hb dX4_open_28 (by decide) ?_
        obtain ⟨hi10, h⟩ := ck_of h
        refine wd_zast hC hW 38 wC_c38 hi10 rfl wC_t38 dX4_open_29 (fun H locs hW => ?_)
        obtain ⟨S11, e12, h⟩ := nm_of h
        replace hW := wq_S e12 hW
        refine lv_iinc (v := x1 + 1) (lv' := [(1, .int (x1 + 1)), (0, .ref (ad 34))]) hx hb dX4_open_30 hl (k := 1) rfl rfl (by decide) rfl (fun ls hl => ?_)
        refine lv_goto (tgt := 17) hx hb dX4_open_33 (by decide) ?_
        exact ih S11 (x1 + 1) _ _ _ r h hW (lv_sub hl [1, 0] rfl) kk
  obtain ⟨q7, hq8, h⟩ := bd_of h
  refine hL17 n S5 0  _ _ _ q7 hq8 hW (lv_sub hl [1, 0] rfl) (fun H locs ls hW hl => ?_)
  refine lv_iconst (v := 0) hx hb dX4_open_36 (by decide) ?_
  refine lv_istore_n (lv' := [(1, .int 0), (0, .ref (ad 34))]) hx hb dX4_open_37 rfl hl (by decide) rfl (fun ls hl => ?_)
  have hL38 : ∀ (n : Nat) (S : St) (x1 : Int32)  (H : Heap) (locs : List Loc) (ls : Array Slot) (r : (St)), m_X4_open_L38 40 34 n S x1 = some r → Wd D cy A s (wC ad cy S ++ X) H locs → lv_has ls 2 [(0, .ref (ad 34)), (1, .int x1)] → (∀ (H : Heap) (locs : List Loc) (ls : Array Slot), Wd D cy A s (wC ad cy r ++ X) H locs → lv_has ls 2 [(0, .ref (ad 34))] → W p l e (RM 2) s m args below meth c H locs 0 0 Q (F0 m 60 ls [])) → W p l e (RM 2) s m args below meth c H locs 0 0 Q (F0 m 38 ls []) := by
    intro n
    induction n with
    | zero =>
      intro S x1  H locs ls r h
      exact absurd (h.symm.trans (m_X4_open_L38_0 ..)) (by simp)
    | succ n ih =>
      intro S x1  H locs ls r h hW hl kk
      rw [m_X4_open_L38_s] at h
      refine lv_iload_n hx hb dX4_open_38 rfl (lv_at hl 1 rfl) ?_
      refine lv_aload_n hx hb dX4_open_39 rfl (lv_at hl 0 rfl) ?_
      refine wd_get hC i4 hW 34 wC_c34 rfl 10 (Nat.le_of_ble_eq_true rfl) f41 rfl rfl dX4_open_40 ?_
      refine wd_alen hC hW 39 0 wC_c39 rfl (v := 18) rfl dX4_open_43 ?_
      refine lv_icmp_ge (tgt := 60) hx hb dX4_open_44 (by decide) (fun c15 => ?_) (fun c15 => ?_)
      · replace h := ite_t h c15
        obtain rfl := Option.some.inj h
        exact kk _ _ _ hW (lv_sub hl [0] rfl)
      · replace h := ite_f h c15
        refine lv_aload_n hx hb dX4_open_47 rfl (lv_at hl 0 rfl) ?_
        refine wd_get hC i4 hW 34 wC_c34 rfl 10 (Nat.le_of_ble_eq_true rfl) f41 rfl rfl dX4_open_48 ?_
        refine lv_iload_n hx hb dX4_open_51 rfl (lv_at hl 1 rfl) ?_
        refine lv_iconst (v := 0) hx hb dX4_open_52 (by decide) ?_
        obtain ⟨hi16, h⟩ := ck_of h
        refine wd_iast hC hW 39 wC_c39 hi16 wC_t39 dX4_open_53 (fun H locs hW => ?_)
        obtain ⟨S17, e18, h⟩ := nm_of h
        replace hW := wq_S e18 hW
        refine lv_iinc (v := x1 + 1) (lv' := [(1, .int (x1 + 1)), (0, .ref (ad 34))]) hx hb dX4_open_54 hl (k := 1) rfl rfl (by decide) rfl (fun ls hl => ?_)
        refine lv_goto (tgt := 38) hx hb dX4_open_57 (by decide) ?_
        exact ih S17 (x1 + 1) _ _ _ r h hW (lv_sub hl [1, 0] rfl) kk
  obtain ⟨q13, hq14, h⟩ := bd_of h
  refine hL38 n q7 0  _ _ _ q13 hq14 hW (lv_sub hl [1, 0] rfl) (fun H locs ls hW hl => ?_)
  refine lv_aload_n hx hb dX4_open_60 rfl (lv_at hl 0 rfl) ?_
  obtain ⟨r19, hr20, h⟩ := bd_of h
  refine wd_callV0 (As := []) hC hW 34 wC_c34 rfl (c_X4_openLiftD l D cy ad X n q13 r19 hr20) (cwV 0 hts (gu_V w_9_1 w_8_22 w_8_23 w_9_0 w_1_23) rfl rfl rfl hdX4_openLift ⟨Nat.le_of_ble_eq_true rfl, Nat.le_of_ble_eq_true rfl⟩) rfl hl.1 rfl (Nat.le_of_ble_eq_true rfl) ⟨Nat.zero_le _, Nat.zero_le _⟩ dX4_open_61 (fun H locs hW => ?_)
  obtain rfl := Option.some.inj h
  exact wd_vret hA hQ hC hr hk hW dX4_open_64
def m_X4_drawOn_L4 (ib ab : Nat) : Nat → St → Int32 → Int32 → Option (Int32 × St)
  | 0, _, _, _ => none
  | n + 1, S, x2, x3 =>
    if 54 ≤ x3 then (some (x2, S)) else ((m_X4_next ib ab n S).bind (fun r2 => if 0 ≤ r2 then ((m_X4_oddsNow ib ab S r2).bind (fun r5 => ((if r5 ≤ (irm (usr ((x2 * 1103515245) + 12345) 16) 1000) then (some 0) else (some 1) : Option (Int32))).bind (fun q8 => (m_X4_take ib ab S r2 q8).bind (fun r10 => (m_X4_goOn ib ab n r10).bind (fun r12 => m_X4_drawOn_L4 ib ab n r12 ((x2 * 1103515245) + 12345) (x3 + 1)))))) else (some (x2, S))))
theorem m_X4_drawOn_L4_0 {ib ab : Nat} (S : St) (x2 : Int32) (x3 : Int32) : m_X4_drawOn_L4 ib ab 0 S x2 x3 = none := rfl
theorem m_X4_drawOn_L4_s {ib ab : Nat} {n : Nat} {S : St} {x2 : Int32} {x3 : Int32} : m_X4_drawOn_L4 ib ab (n + 1) S x2 x3 =
    (if 54 ≤ x3 then (some (x2, S)) else ((m_X4_next ib ab n S).bind (fun r2 => if 0 ≤ r2 then ((m_X4_oddsNow ib ab S r2).bind (fun r5 => ((if r5 ≤ (irm (usr ((x2 * 1103515245) + 12345) 16) 1000) then (some 0) else (some 1) : Option (Int32))).bind (fun q8 => (m_X4_take ib ab S r2 q8).bind (fun r10 => (m_X4_goOn ib ab n r10).bind (fun r12 => m_X4_drawOn_L4 ib ab n r12 ((x2 * 1103515245) + 12345) (x3 + 1)))))) else (some (x2, S))))) := rfl
def m_X4_drawOn (ib ab : Nat) (n : Nat) (S : St) (p0 : Int32) : Option (Int32 × St) :=
  m_X4_drawOn_L4 ib ab n S p0 0
set_option maxHeartbeats 4000000 in
set_option maxRecDepth 100000 in
theorem c_X4_drawOnM (l : Launch) (D : va_G) (cy : Nat → ClassId) (ad : Nat → Nat) (X : va_W) (n : Nat) (S : St) (p0 : Int32) (r : (Int32 × St)) (h : m_X4_drawOn 30 25 n S p0 = some r) : CT l yX4_drawOn (wu yX4_drawOn cX4_drawOn 5 (some .int)) 4 D cy [.ref (ad 25), .int p0] (wC ad cy S ++ X) (some (.int r.1)) (wC ad cy r.2 ++ X) := by
  refine CT.mk (cc := cX4_drawOn) (maxL := 5) (ret := (some .int)) (own := RX4) (by decide) rfl rfl (Nat.le_of_ble_eq_true rfl) ?_
  intro p e s m args below meth c ls A Q hA hQ hC hr hk hW hl
  have hx := hC.1
  have hb := hC.2.1
  have hown := hC.2.2.2.1
  have hts := hC.2.2.2.2
  have hl : lv_has ls 5 [(0, .ref (ad 25)), (1, .int p0)] := hl
  have k102 := hts _ (wu_in w_49_4)
  unfold m_X4_drawOn at h
  refine lv_iload_n hx hb dX4_drawOn_0 rfl (lv_at hl 1 rfl) ?_
  refine lv_istore_n (lv' := [(2, .int p0), (0, .ref (ad 25)), (1, .int p0)]) hx hb dX4_drawOn_1 rfl hl (by decide) rfl (fun ls hl => ?_)
  refine lv_iconst (v := 0) hx hb dX4_drawOn_2 (by decide) ?_
  refine lv_istore_n (lv' := [(3, .int 0), (2, .int p0), (0, .ref (ad 25)), (1, .int p0)]) hx hb dX4_drawOn_3 rfl hl (by decide) rfl (fun ls hl => ?_)
  have hL4 : ∀ (n : Nat) (S : St) (x2 : Int32) (x3 : Int32)  (H : Heap) (locs : List Loc) (ls : Array Slot), m_X4_drawOn_L4 30 25 n S x2 x3 = some r → Wd D cy A s (wC ad cy S ++ X) H locs → lv_has ls 5 [(0, .ref (ad 25)), (2, .int x2), (3, .int x3)] → W p l e (RM 4) s m args below meth c H locs 0 0 Q (F0 m 4 ls []) := by
    intro n
    induction n with
    | zero =>
      intro S x2 x3  H locs ls h
      exact absurd (h.symm.trans (m_X4_drawOn_L4_0 ..)) (by simp)
    | succ n ih =>
      intro S x2 x3  H locs ls h hW hl
      rw [m_X4_drawOn_L4_s] at h
      refine lv_iload_n hx hb dX4_drawOn_4 rfl (lv_at hl 2 rfl) ?_
      refine lv_bipush (v := 54) hx hb dX4_drawOn_5 (by decide) ?_
      refine lv_icmp_ge (tgt := 71) hx hb dX4_drawOn_7 (by decide) (fun c1 => ?_) (fun c1 => ?_)
      · replace h := ite_t h c1
        refine lv_iload_n hx hb dX4_drawOn_71 rfl (lv_at hl 1 rfl) ?_
        obtain rfl := Option.some.inj h
        exact wd_iret hA hQ hC hr hk hW dX4_drawOn_72
      · replace h := ite_f h c1
        refine lv_aload_n hx hb dX4_drawOn_10 rfl (lv_at hl 0 rfl) ?_
        obtain ⟨r2, hr3, h⟩ := bd_of h
        refine wd_callV1 (As := []) hC hW 25 wC_c25 rfl (c_X4_nextM l D cy ad X n S r2 hr3) (cwV 0 hts (gu_V w_18_6 w_21_0 w_18_4 w_18_5 w_1_23) rfl rfl rfl hdX4_next ⟨Nat.le_of_ble_eq_true rfl, Nat.le_of_ble_eq_true rfl⟩) rfl hl.1 rfl (Nat.le_of_ble_eq_true rfl) ⟨Nat.zero_le _, Nat.zero_le _⟩ dX4_drawOn_11 (fun H locs hW => ?_)
        refine lv_istore (lv' := [(4, .int r2), (0, .ref (ad 25)), (2, .int x2), (3, .int x3)]) hx hb dX4_drawOn_14 hl (by decide) rfl (fun ls hl => ?_)
        refine lv_iload hx hb dX4_drawOn_16 (lv_at hl 0 rfl) ?_
        refine lv_if_ge (tgt := 24) hx hb dX4_drawOn_18 (by decide) (fun c4 => ?_) (fun c4 => ?_)
        · replace h := ite_t h c4
          refine lv_iload_n hx hb dX4_drawOn_24 rfl (lv_at hl 2 rfl) ?_
          refine lv_ldc hx hb hown k102 dX4_drawOn_25 ?_
          refine lv_imul hx hb dX4_drawOn_27 ?_
          refine lv_sipush (v := 12345) hx hb dX4_drawOn_28 (by decide) ?_
          refine lv_iadd hx hb dX4_drawOn_31 ?_
          refine lv_istore_n (lv' := [(2, .int ((x2 * 1103515245) + 12345)), (4, .int r2), (0, .ref (ad 25)), (3, .int x3)]) hx hb dX4_drawOn_32 rfl hl (by decide) rfl (fun ls hl => ?_)
          refine lv_aload_n hx hb dX4_drawOn_33 rfl (lv_at hl 2 rfl) ?_
          refine lv_iload hx hb dX4_drawOn_34 (lv_at hl 1 rfl) ?_
          refine lv_iload_n hx hb dX4_drawOn_36 rfl (lv_at hl 0 rfl) ?_
          refine lv_bipush (v := 16) hx hb dX4_drawOn_37 (by decide) ?_
          refine lv_iushr (v := usr ((x2 * 1103515245) + 12345) 16) hx hb dX4_drawOn_39 rfl ?_
          refine lv_sipush (v := 1000) hx hb dX4_drawOn_40 (by decide) ?_
          refine lv_irem hx hb dX4_drawOn_43 (by decide) ?_
          refine lv_aload_n hx hb dX4_drawOn_44 rfl (lv_at hl 2 rfl) ?_
          refine lv_iload hx hb dX4_drawOn_45 (lv_at hl 1 rfl) ?_
          obtain ⟨r5, hr6, h⟩ := bd_of h
          refine wd_callV1 (As := [.int r2]) hC hW 25 wC_c25 rfl (c_X4_oddsNowM l D cy ad X S r2 r5 hr6) (cwV 1 hts (gu_V w_18_16 w_49_5 w_18_14 w_18_15 w_1_23) rfl rfl rfl hdX4_oddsNow ⟨Nat.le_of_ble_eq_true rfl, Nat.le_of_ble_eq_true rfl⟩) rfl hl.1 rfl (Nat.le_of_ble_eq_true rfl) ⟨Nat.zero_le _, Nat.zero_le _⟩ dX4_drawOn_47 (fun H locs hW => ?_)
          obtain ⟨q8, hq9, h⟩ := bd_of h
          have hJ58 : ∀ (H : Heap) (locs : List Loc) (ls : Array Slot), Wd D cy A s (wC ad cy S ++ X) H locs → lv_has ls 5 [(2, .int ((x2 * 1103515245) + 12345)), (4, .int r2), (0, .ref (ad 25)), (3, .int x3)] → W p l e (RM 4) s m args below meth c H locs 0 0 Q (F0 m 58 ls [.int q8, .int r2, .ref (ad 25)]) := by
            intro H locs ls hW hl
            obtain ⟨r10, hr11, h⟩ := bd_of h
            refine wd_callV0 (As := [.int r2, .int q8]) hC hW 25 wC_c25 rfl (c_X4_takeM l D cy ad X S r2 q8 r10 hr11) (cwV 2 hts (gu_V w_20_19 w_49_6 w_20_17 w_20_18 w_1_23) rfl rfl rfl hdX4_take ⟨Nat.le_of_ble_eq_true rfl, Nat.le_of_ble_eq_true rfl⟩) rfl hl.1 rfl (Nat.le_of_ble_eq_true rfl) ⟨Nat.zero_le _, Nat.zero_le _⟩ dX4_drawOn_58 (fun H locs hW => ?_)
            refine lv_aload_n hx hb dX4_drawOn_61 rfl (lv_at hl 2 rfl) ?_
            obtain ⟨r12, hr13, h⟩ := bd_of h
            refine wd_callV0 (As := []) hC hW 25 wC_c25 rfl (c_X4_goOnM l D cy ad X n r10 r12 hr13) (cwV 0 hts (gu_V w_20_23 w_49_7 w_20_21 w_20_22 w_1_23) rfl rfl rfl hdX4_goOn ⟨Nat.le_of_ble_eq_true rfl, Nat.le_of_ble_eq_true rfl⟩) rfl hl.1 rfl (Nat.le_of_ble_eq_true rfl) ⟨Nat.zero_le _, Nat.zero_le _⟩ dX4_drawOn_62 (fun H locs hW => ?_)
            refine lv_iinc (v := x3 + 1) (lv' := [(3, .int (x3 + 1)), (2, .int ((x2 * 1103515245) + 12345)), (4, .int r2), (0, .ref (ad 25))]) hx hb dX4_drawOn_65 hl (k := 3) rfl rfl (by decide) rfl (fun ls hl => ?_)
            refine lv_goto (tgt := 4) hx hb dX4_drawOn_68 (by decide) ?_
            exact ih r12 ((x2 * 1103515245) + 12345) (x3 + 1) _ _ _ h hW (lv_sub hl [3, 1, 0] rfl)
          replace h := hq9
          refine lv_icmp_ge (tgt := 57) hx hb dX4_drawOn_50 (by decide) (fun c7 => ?_) (fun c7 => ?_)
          · replace h := ite_t h c7
            refine lv_iconst (v := 0) hx hb dX4_drawOn_57 (by decide) ?_
            obtain rfl := Option.some.inj h
            exact hJ58 _ _ _ hW (lv_sub hl [0, 1, 2, 3] rfl)
          · replace h := ite_f h c7
            refine lv_iconst (v := 1) hx hb dX4_drawOn_53 (by decide) ?_
            refine lv_goto (tgt := 58) hx hb dX4_drawOn_54 (by decide) ?_
            obtain rfl := Option.some.inj h
            exact hJ58 _ _ _ hW (lv_sub hl [0, 1, 2, 3] rfl)
        · replace h := ite_f h c4
          refine lv_goto (tgt := 71) hx hb dX4_drawOn_21 (by decide) ?_
          refine lv_iload_n hx hb dX4_drawOn_71 rfl (lv_at hl 2 rfl) ?_
          obtain rfl := Option.some.inj h
          exact wd_iret hA hQ hC hr hk hW dX4_drawOn_72
  exact hL4 n S p0 0  _ _ _ h hW (lv_sub hl [2, 1, 0] rfl)
set_option maxHeartbeats 4000000 in
set_option maxRecDepth 100000 in
theorem c_X4_drawOnD (l : Launch) (D : va_G) (cy : Nat → ClassId) (ad : Nat → Nat) (X : va_W) (n : Nat) (S : St) (p0 : Int32) (r : (Int32 × St)) (h : m_X4_drawOn 40 34 n S p0 = some r) : CT l yX4_drawOn (wu yX4_drawOn cX4_drawOn 5 (some .int)) 4 D cy [.ref (ad 34), .int p0] (wC ad cy S ++ X) (some (.int r.1)) (wC ad cy r.2 ++ X) := by
  refine CT.mk (cc := cX4_drawOn) (maxL := 5) (ret := (some .int)) (own := RX4) (by decide) rfl rfl (Nat.le_of_ble_eq_true rfl) ?_
  intro p e s m args below meth c ls A Q hA hQ hC hr hk hW hl
  have hx := hC.1
  have hb := hC.2.1
  have hown := hC.2.2.2.1
  have hts := hC.2.2.2.2
  have hl : lv_has ls 5 [(0, .ref (ad 34)), (1, .int p0)] := hl
  have k102 := hts _ (wu_in w_49_4)
  unfold m_X4_drawOn at h
  refine lv_iload_n hx hb dX4_drawOn_0 rfl (lv_at hl 1 rfl) ?_
  refine lv_istore_n (lv' := [(2, .int p0), (0, .ref (ad 34)), (1, .int p0)]) hx hb dX4_drawOn_1 rfl hl (by decide) rfl (fun ls hl => ?_)
  refine lv_iconst (v := 0) hx hb dX4_drawOn_2 (by decide) ?_
  refine lv_istore_n (lv' := [(3, .int 0), (2, .int p0), (0, .ref (ad 34)), (1, .int p0)]) hx hb dX4_drawOn_3 rfl hl (by decide) rfl (fun ls hl => ?_)
  have hL4 : ∀ (n : Nat) (S : St) (x2 : Int32) (x3 : Int32)  (H : Heap) (locs : List Loc) (ls : Array Slot), m_X4_drawOn_L4 40 34 n S x2 x3 = some r → Wd D cy A s (wC ad cy S ++ X) H locs → lv_has ls 5 [(0, .ref (ad 34)), (2, .int x2), (3, .int x3)] → W p l e (RM 4) s m args below meth c H locs 0 0 Q (F0 m 4 ls []) := by
    intro n
    induction n with
    | zero =>
      intro S x2 x3  H locs ls h
      exact absurd (h.symm.trans (m_X4_drawOn_L4_0 ..)) (by simp)
    | succ n ih =>
      intro S x2 x3  H locs ls h hW hl
      rw [m_X4_drawOn_L4_s] at h
      refine lv_iload_n hx hb dX4_drawOn_4 rfl (lv_at hl 2 rfl) ?_
      refine lv_bipush (v := 54) hx hb dX4_drawOn_5 (by decide) ?_
      refine lv_icmp_ge (tgt := 71) hx hb dX4_drawOn_7 (by decide) (fun c1 => ?_) (fun c1 => ?_)
      · replace h := ite_t h c1
        refine lv_iload_n hx hb dX4_drawOn_71 rfl (lv_at hl 1 rfl) ?_
        obtain rfl := Option.some.inj h
        exact wd_iret hA hQ hC hr hk hW dX4_drawOn_72
      · replace h := ite_f h c1
        refine lv_aload_n hx hb dX4_drawOn_10 rfl (lv_at hl 0 rfl) ?_
        obtain ⟨r2, hr3, h⟩ := bd_of h
        refine wd_callV1 (As := []) hC hW 34 wC_c34 rfl (c_X4_nextD l D cy ad X n S r2 hr3) (cwV 0 hts (gu_V w_18_6 w_21_0 w_18_4 w_18_5 w_1_23) rfl rfl rfl hdX4_next ⟨Nat.le_of_ble_eq_true rfl, Nat.le_of_ble_eq_true rfl⟩) rfl hl.1 rfl (Nat.le_of_ble_eq_true rfl) ⟨Nat.zero_le _, Nat.zero_le _⟩ dX4_drawOn_11 (fun H locs hW => ?_)
        refine lv_istore (lv' := [(4, .int r2), (0, .ref (ad 34)), (2, .int x2), (3, .int x3)]) hx hb dX4_drawOn_14 hl (by decide) rfl (fun ls hl => ?_)
        refine lv_iload hx hb dX4_drawOn_16 (lv_at hl 0 rfl) ?_
        refine lv_if_ge (tgt := 24) hx hb dX4_drawOn_18 (by decide) (fun c4 => ?_) (fun c4 => ?_)
        · replace h := ite_t h c4
          refine lv_iload_n hx hb dX4_drawOn_24 rfl (lv_at hl 2 rfl) ?_
          refine lv_ldc hx hb hown k102 dX4_drawOn_25 ?_
          refine lv_imul hx hb dX4_drawOn_27 ?_
          refine lv_sipush (v := 12345) hx hb dX4_drawOn_28 (by decide) ?_
          refine lv_iadd hx hb dX4_drawOn_31 ?_
          refine lv_istore_n (lv' := [(2, .int ((x2 * 1103515245) + 12345)), (4, .int r2), (0, .ref (ad 34)), (3, .int x3)]) hx hb dX4_drawOn_32 rfl hl (by decide) rfl (fun ls hl => ?_)
          refine lv_aload_n hx hb dX4_drawOn_33 rfl (lv_at hl 2 rfl) ?_
          refine lv_iload hx hb dX4_drawOn_34 (lv_at hl 1 rfl) ?_
          refine lv_iload_n hx hb dX4_drawOn_36 rfl (lv_at hl 0 rfl) ?_
          refine lv_bipush (v := 16) hx hb dX4_drawOn_37 (by decide) ?_
          refine lv_iushr (v := usr ((x2 * 1103515245) + 12345) 16) hx hb dX4_drawOn_39 rfl ?_
          refine lv_sipush (v := 1000) hx hb dX4_drawOn_40 (by decide) ?_
          refine lv_irem hx hb dX4_drawOn_43 (by decide) ?_
          refine lv_aload_n hx hb dX4_drawOn_44 rfl (lv_at hl 2 rfl) ?_
          refine lv_iload hx hb dX4_drawOn_45 (lv_at hl 1 rfl) ?_
          obtain ⟨r5, hr6, h⟩ := bd_of h
          refine wd_callV1 (As := [.int r2]) hC hW 34 wC_c34 rfl (c_X4_oddsNowD l D cy ad X S r2 r5 hr6) (cwV 1 hts (gu_V w_18_16 w_49_5 w_18_14 w_18_15 w_1_23) rfl rfl rfl hdX4_oddsNow ⟨Nat.le_of_ble_eq_true rfl, Nat.le_of_ble_eq_true rfl⟩) rfl hl.1 rfl (Nat.le_of_ble_eq_true rfl) ⟨Nat.zero_le _, Nat.zero_le _⟩ dX4_drawOn_47 (fun H locs hW => ?_)
          obtain ⟨q8, hq9, h⟩ := bd_of h
          have hJ58 : ∀ (H : Heap) (locs : List Loc) (ls : Array Slot), Wd D cy A s (wC ad cy S ++ X) H locs → lv_has ls 5 [(2, .int ((x2 * 1103515245) + 12345)), (4, .int r2), (0, .ref (ad 34)), (3, .int x3)] → W p l e (RM 4) s m args below meth c H locs 0 0 Q (F0 m 58 ls [.int q8, .int r2, .ref (ad 34)]) := by
            intro H locs ls hW hl
            obtain ⟨r10, hr11, h⟩ := bd_of h
            refine wd_callV0 (As := [.int r2, .int q8]) hC hW 34 wC_c34 rfl (c_X4_takeD l D cy ad X S r2 q8 r10 hr11) (cwV 2 hts (gu_V w_20_19 w_49_6 w_20_17 w_20_18 w_1_23) rfl rfl rfl hdX4_take ⟨Nat.le_of_ble_eq_true rfl, Nat.le_of_ble_eq_true rfl⟩) rfl hl.1 rfl (Nat.le_of_ble_eq_true rfl) ⟨Nat.zero_le _, Nat.zero_le _⟩ dX4_drawOn_58 (fun H locs hW => ?_)
            refine lv_aload_n hx hb dX4_drawOn_61 rfl (lv_at hl 2 rfl) ?_
            obtain ⟨r12, hr13, h⟩ := bd_of h
            refine wd_callV0 (As := []) hC hW 34 wC_c34 rfl (c_X4_goOnD l D cy ad X n r10 r12 hr13) (cwV 0 hts (gu_V w_20_23 w_49_7 w_20_21 w_20_22 w_1_23) rfl rfl rfl hdX4_goOn ⟨Nat.le_of_ble_eq_true rfl, Nat.le_of_ble_eq_true rfl⟩) rfl hl.1 rfl (Nat.le_of_ble_eq_true rfl) ⟨Nat.zero_le _, Nat.zero_le _⟩ dX4_drawOn_62 (fun H locs hW => ?_)
            refine lv_iinc (v := x3 + 1) (lv' := [(3, .int (x3 + 1)), (2, .int ((x2 * 1103515245) + 12345)), (4, .int r2), (0, .ref (ad 34))]) hx hb dX4_drawOn_65 hl (k := 3) rfl rfl (by decide) rfl (fun ls hl => ?_)
            refine lv_goto (tgt := 4) hx hb dX4_drawOn_68 (by decide) ?_
            exact ih r12 ((x2 * 1103515245) + 12345) (x3 + 1) _ _ _ h hW (lv_sub hl [3, 1, 0] rfl)
          replace h := hq9
          refine lv_icmp_ge (tgt := 57) hx hb dX4_drawOn_50 (by decide) (fun c7 => ?_) (fun c7 => ?_)
          · replace h := ite_t h c7
            refine lv_iconst (v := 0) hx hb dX4_drawOn_57 (by decide) ?_
            obtain rfl := Option.some.inj h
            exact hJ58 _ _ _ hW (lv_sub hl [0, 1, 2, 3] rfl)
          · replace h := ite_f h c7
            refine lv_iconst (v := 1) hx hb dX4_drawOn_53 (by decide) ?_
            refine lv_goto (tgt := 58) hx hb dX4_drawOn_54 (by decide) ?_
            obtain rfl := Option.some.inj h
            exact hJ58 _ _ _ hW (lv_sub hl [0, 1, 2, 3] rfl)
        · replace h := ite_f h c4
          refine lv_goto (tgt := 71) hx hb dX4_drawOn_21 (by decide) ?_
          refine lv_iload_n hx hb dX4_drawOn_71 rfl (lv_at hl 2 rfl) ?_
          obtain rfl := Option.some.inj h
          exact wd_iret hA hQ hC hr hk hW dX4_drawOn_72
  exact hL4 n S p0 0  _ _ _ h hW (lv_sub hl [2, 1, 0] rfl)
def m_X4_copy_L58 : Nat → St → Int32 → Option (St)
  | 0, _, _ => none
  | n + 1, S, x2 =>
    if 6 ≤ x2 then (some S) else (ck x2 6 (ck x2 6 (nm (sA S 35 x2.toNatClampNeg (S.2.1 26 x2.toNatClampNeg)) (fun S20 => ck x2 6 (ck x2 6 (ckb (S20.2.1 27 x2.toNatClampNeg) (nm (sA S20 36 x2.toNatClampNeg (S20.2.1 27 x2.toNatClampNeg)) (fun S25 => ck x2 6 (ck x2 6 (nm (sA S25 37 x2.toNatClampNeg (S25.2.1 28 x2.toNatClampNeg)) (fun S29 => ck x2 6 (ck x2 6 (ckb (S29.2.1 29 x2.toNatClampNeg) (nm (sA S29 38 x2.toNatClampNeg (S29.2.1 29 x2.toNatClampNeg)) (fun S34 => ck x2 6 (ck x2 6 (nm (sA S34 40 x2.toNatClampNeg (S34.2.1 31 x2.toNatClampNeg)) (fun S38 => ck x2 6 (ck x2 6 (nm (sA S38 41 x2.toNatClampNeg (S38.2.1 32 x2.toNatClampNeg)) (fun S42 => m_X4_copy_L58 n S42 (x2 + 1))))))))))))))))))))))
theorem m_X4_copy_L58_0 (S : St) (x2 : Int32) : m_X4_copy_L58 0 S x2 = none := rfl
theorem m_X4_copy_L58_s {n : Nat} {S : St} {x2 : Int32} : m_X4_copy_L58 (n + 1) S x2 =
    (if 6 ≤ x2 then (some S) else (ck x2 6 (ck x2 6 (nm (sA S 35 x2.toNatClampNeg (S.2.1 26 x2.toNatClampNeg)) (fun S20 => ck x2 6 (ck x2 6 (ckb (S20.2.1 27 x2.toNatClampNeg) (nm (sA S20 36 x2.toNatClampNeg (S20.2.1 27 x2.toNatClampNeg)) (fun S25 => ck x2 6 (ck x2 6 (nm (sA S25 37 x2.toNatClampNeg (S25.2.1 28 x2.toNatClampNeg)) (fun S29 => ck x2 6 (ck x2 6 (ckb (S29.2.1 29 x2.toNatClampNeg) (nm (sA S29 38 x2.toNatClampNeg (S29.2.1 29 x2.toNatClampNeg)) (fun S34 => ck x2 6 (ck x2 6 (nm (sA S34 40 x2.toNatClampNeg (S34.2.1 31 x2.toNatClampNeg)) (fun S38 => ck x2 6 (ck x2 6 (nm (sA S38 41 x2.toNatClampNeg (S38.2.1 32 x2.toNatClampNeg)) (fun S42 => m_X4_copy_L58 n S42 (x2 + 1))))))))))))))))))))))) := rfl
def m_X4_copy_L144 : Nat → St → Int32 → Option (St)
  | 0, _, _ => none
  | n + 1, S, x2 =>
    if 18 ≤ x2 then (some S) else (ck x2 18 (ck x2 18 (nm (sA S 39 x2.toNatClampNeg (S.2.1 30 x2.toNatClampNeg)) (fun S49 => m_X4_copy_L144 n S49 (x2 + 1)))))
theorem m_X4_copy_L144_0 (S : St) (x2 : Int32) : m_X4_copy_L144 0 S x2 = none := rfl
theorem m_X4_copy_L144_s {n : Nat} {S : St} {x2 : Int32} : m_X4_copy_L144 (n + 1) S x2 =
    (if 18 ≤ x2 then (some S) else (ck x2 18 (ck x2 18 (nm (sA S 39 x2.toNatClampNeg (S.2.1 30 x2.toNatClampNeg)) (fun S49 => m_X4_copy_L144 n S49 (x2 + 1)))))) := rfl
def m_X4_copy (n : Nat) (S : St) : Option (St) :=
  nm (sI S 40 (S.1 30)) (fun S1 => nm (sI S1 41 (S1.1 31)) (fun S3 => nm (sI S3 42 (S3.1 32)) (fun S5 => nm (sI S5 43 (S5.1 33)) (fun S7 => nm (sI S7 44 (S7.1 34)) (fun S9 => nm (sI S9 45 (S9.1 35)) (fun S11 => nm (sI S11 46 (S11.1 36)) (fun S13 => (m_X4_copy_L58 n S13 0).bind (fun q15 => (m_X4_copy_L144 n q15 0).bind (fun q44 => some q44)))))))))
set_option maxHeartbeats 4000000 in
set_option maxRecDepth 100000 in
theorem c_X4_copy (l : Launch) (D : va_G) (cy : Nat → ClassId) (ad : Nat → Nat) (X : va_W) (n : Nat) (S : St) (r : (St)) (h : m_X4_copy n S = some r) : CT l yX4_copy (wu yX4_copy cX4_copy 3 none) 0 D cy [.ref (ad 34), .ref (ad 25)] (wC ad cy S ++ X) (none) (wC ad cy r ++ X) := by
  refine CT.mk (cc := cX4_copy) (maxL := 3) (ret := none) (own := RX4) (by decide) rfl rfl (Nat.le_of_ble_eq_true rfl) ?_
  intro p e s m args below meth c ls A Q hA hQ hC hr hk hW hl
  have hx := hC.1
  have hb := hC.2.1
  have hown := hC.2.2.2.1
  have hts := hC.2.2.2.2
  have hl : lv_has ls 3 [(0, .ref (ad 34)), (1, .ref (ad 25))] := hl
  have f9 := hts _ (wu_in w_3_14)
  have i4 := (fun w h => wu_in (inc_4 w h) : ∀ w ∈ u_ws RX4 TX4 16, w ∈ (wu yX4_copy cX4_copy 3 none))
  have f15 := hts _ (wu_in w_3_15)
  have f18 := hts _ (wu_in w_3_16)
  have f21 := hts _ (wu_in w_3_17)
  have f24 := hts _ (wu_in w_3_18)
  have f53 := hts _ (wu_in w_4_4)
  have f56 := hts _ (wu_in w_4_5)
  have f27 := hts _ (wu_in w_3_19)
  have f31 := hts _ (wu_in w_3_21)
  have f35 := hts _ (wu_in w_3_22)
  have f38 := hts _ (wu_in w_3_23)
  have f44 := hts _ (wu_in w_4_1)
  have f47 := hts _ (wu_in w_4_2)
  have f41 := hts _ (wu_in w_4_0)
  unfold m_X4_copy at h
  refine lv_aload_n hx hb dX4_copy_0 rfl (lv_at hl 0 rfl) ?_
  refine lv_aload_n hx hb dX4_copy_1 rfl (lv_at hl 1 rfl) ?_
  refine wd_get hC i4 hW 25 wC_c25 rfl 1 (Nat.le_of_ble_eq_true rfl) f9 rfl rfl dX4_copy_2 ?_
  refine wd_put hC i4 tyX4_ok nmX4 hW 34 wC_c34 rfl 1 (Nat.le_of_ble_eq_true rfl) f9 rfl rfl rfl rfl (Nat.le_of_ble_eq_true rfl) wC_s34_1 dX4_copy_5 (fun H locs hW => ?_)
  obtain ⟨S1, e2, h⟩ := nm_of h
  replace hW := wq_S e2 hW
  refine lv_aload_n hx hb dX4_copy_8 rfl (lv_at hl 0 rfl) ?_
  refine lv_aload_n hx hb dX4_copy_9 rfl (lv_at hl 1 rfl) ?_
  refine wd_get hC i4 hW 25 wC_c25 rfl 2 (Nat.le_of_ble_eq_true rfl) f15 rfl rfl dX4_copy_10 ?_
  refine wd_put hC i4 tyX4_ok nmX4 hW 34 wC_c34 rfl 2 (Nat.le_of_ble_eq_true rfl) f15 rfl rfl rfl rfl (Nat.le_of_ble_eq_true rfl) wC_s34_2 dX4_copy_13 (fun H locs hW => ?_)
  obtain ⟨S3, e4, h⟩ := nm_of h
  replace hW := wq_S e4 hW
  refine lv_aload_n hx hb dX4_copy_16 rfl (lv_at hl 0 rfl) ?_
  refine lv_aload_n hx hb dX4_copy_17 rfl (lv_at hl 1 rfl) ?_
  refine wd_get hC i4 hW 25 wC_c25 rfl 3 (Nat.le_of_ble_eq_true rfl) f18 rfl rfl dX4_copy_18 ?_
  refine wd_put hC i4 tyX4_ok nmX4 hW 34 wC_c34 rfl 3 (Nat.le_of_ble_eq_true rfl) f18 rfl rfl rfl rfl (Nat.le_of_ble_eq_true rfl) wC_s34_3 dX4_copy_21 (fun H locs hW => ?_)
  obtain ⟨S5, e6, h⟩ := nm_of h
  replace hW := wq_S e6 hW
  refine lv_aload_n hx hb dX4_copy_24 rfl (lv_at hl 0 rfl) ?_
  refine lv_aload_n hx hb dX4_copy_25 rfl (lv_at hl 1 rfl) ?_
  refine wd_get hC i4 hW 25 wC_c25 rfl 4 (Nat.le_of_ble_eq_true rfl) f21 rfl rfl dX4_copy_26 ?_
  refine wd_put hC i4 tyX4_ok nmX4 hW 34 wC_c34 rfl 4 (Nat.le_of_ble_eq_true rfl) f21 rfl rfl rfl rfl (Nat.le_of_ble_eq_true rfl) wC_s34_4 dX4_copy_29 (fun H locs hW => ?_)
  obtain ⟨S7, e8, h⟩ := nm_of h
  replace hW := wq_S e8 hW
  refine lv_aload_n hx hb dX4_copy_32 rfl (lv_at hl 0 rfl) ?_
  refine lv_aload_n hx hb dX4_copy_33 rfl (lv_at hl 1 rfl) ?_
  refine wd_get hC i4 hW 25 wC_c25 rfl 5 (Nat.le_of_ble_eq_true rfl) f24 rfl rfl dX4_copy_34 ?_
  refine wd_put hC i4 tyX4_ok nmX4 hW 34 wC_c34 rfl 5 (Nat.le_of_ble_eq_true rfl) f24 rfl rfl rfl rfl (Nat.le_of_ble_eq_true rfl) wC_s34_5 dX4_copy_37 (fun H locs hW => ?_)
  obtain ⟨S9, e10, h⟩ := nm_of h
  replace hW := wq_S e10 hW
  refine lv_aload_n hx hb dX4_copy_40 rfl (lv_at hl 0 rfl) ?_
  refine lv_aload_n hx hb dX4_copy_41 rfl (lv_at hl 1 rfl) ?_
  refine wd_get hC i4 hW 25 wC_c25 rfl 14 (Nat.le_of_ble_eq_true rfl) f53 rfl rfl dX4_copy_42 ?_
  refine wd_put hC i4 tyX4_ok nmX4 hW 34 wC_c34 rfl 14 (Nat.le_of_ble_eq_true rfl) f53 rfl rfl rfl rfl (Nat.le_of_ble_eq_true rfl) wC_s34_14 dX4_copy_45 (fun H locs hW => ?_)
  obtain ⟨S11, e12, h⟩ := nm_of h
  replace hW := wq_S e12 hW
  refine lv_aload_n hx hb dX4_copy_48 rfl (lv_at hl 0 rfl) ?_
  refine lv_aload_n hx hb dX4_copy_49 rfl (lv_at hl 1 rfl) ?_
  refine wd_get hC i4 hW 25 wC_c25 rfl 15 (Nat.le_of_ble_eq_true rfl) f56 rfl rfl dX4_copy_50 ?_
  refine wd_put hC i4 tyX4_ok nmX4 hW 34 wC_c34 rfl 15 (Nat.le_of_ble_eq_true rfl) f56 rfl rfl rfl rfl (Nat.le_of_ble_eq_true rfl) wC_s34_15 dX4_copy_53 (fun H locs hW => ?_)
  obtain ⟨S13, e14, h⟩ := nm_of h
  replace hW := wq_S e14 hW
  refine lv_iconst (v := 0) hx hb dX4_copy_56 (by decide) ?_
  refine lv_istore_n (lv' := [(2, .int 0), (0, .ref (ad 34)), (1, .ref (ad 25))]) hx hb dX4_copy_57 rfl hl (by decide) rfl (fun ls hl => ?_)
  have hL58 : ∀ (n : Nat) (S : St) (x2 : Int32)  (H : Heap) (locs : List Loc) (ls : Array Slot) (r : (St)), m_X4_copy_L58 n S x2 = some r → Wd D cy A s (wC ad cy S ++ X) H locs → lv_has ls 3 [(0, .ref (ad 34)), (1, .ref (ad 25)), (2, .int x2)] → (∀ (H : Heap) (locs : List Loc) (ls : Array Slot), Wd D cy A s (wC ad cy r ++ X) H locs → lv_has ls 3 [(0, .ref (ad 34)), (1, .ref (ad 25))] → W p l e (RM 0) s m args below meth c H locs 0 0 Q (F0 m 142 ls [])) → W p l e (RM 0) s m args below meth c H locs 0 0 Q (F0 m 58 ls []) := by
    intro n
    induction n with
    | zero =>
      intro S x2  H locs ls r h
      exact absurd (h.symm.trans (m_X4_copy_L58_0 ..)) (by simp)
    | succ n ih =>
      intro S x2  H locs ls r h hW hl kk
      rw [m_X4_copy_L58_s] at h
      refine lv_iload_n hx hb dX4_copy_58 rfl (lv_at hl 2 rfl) ?_
      refine lv_bipush (v := 6) hx hb dX4_copy_59 (by decide) ?_
      refine lv_icmp_ge (tgt := 142) hx hb dX4_copy_61 (by decide) (fun c17 => ?_) (fun c17 => ?_)
      · replace h := ite_t h c17
        obtain rfl := Option.some.inj h
        exact kk _ _ _ hW (lv_sub hl [0, 1] rfl)
      · replace h := ite_f h c17
        refine lv_aload_n hx hb dX4_copy_64 rfl (lv_at hl 0 rfl) ?_
        refine wd_get hC i4 hW 34 wC_c34 rfl 6 (Nat.le_of_ble_eq_true rfl) f27 rfl rfl dX4_copy_65 ?_
        refine lv_iload_n hx hb dX4_copy_68 rfl (lv_at hl 2 rfl) ?_
        refine lv_aload_n hx hb dX4_copy_69 rfl (lv_at hl 1 rfl) ?_
        refine wd_get hC i4 hW 25 wC_c25 rfl 6 (Nat.le_of_ble_eq_true rfl) f27 rfl rfl dX4_copy_70 ?_
        refine lv_iload_n hx hb dX4_copy_73 rfl (lv_at hl 2 rfl) ?_
        obtain ⟨hi18, h⟩ := ck_of h
        refine wd_iald hC hW 26 wC_c26 hi18 dX4_copy_74 ?_
        obtain ⟨hi19, h⟩ := ck_of h
        refine wd_iast hC hW 35 wC_c35 hi19 wC_t35 dX4_copy_75 (fun H locs hW => ?_)
        obtain ⟨S20, e21, h⟩ := nm_of h
        replace hW := wq_S e21 hW
        refine lv_aload_n hx hb dX4_copy_76 rfl (lv_at hl 0 rfl) ?_
        refine wd_get hC i4 hW 34 wC_c34 rfl 7 (Nat.le_of_ble_eq_true rfl) f31 rfl rfl dX4_copy_77 ?_
        refine lv_iload_n hx hb dX4_copy_80 rfl (lv_at hl 2 rfl) ?_
        refine lv_aload_n hx hb dX4_copy_81 rfl (lv_at hl 1 rfl) ?_
        refine wd_get hC i4 hW 25 wC_c25 rfl 7 (Nat.le_of_ble_eq_true rfl) f31 rfl rfl dX4_copy_82 ?_
        refine lv_iload_n hx hb dX4_copy_85 rfl (lv_at hl 2 rfl) ?_
        obtain ⟨hi22, h⟩ := ck_of h
        refine wd_zald hC hW 27 wC_c27 hi22 dX4_copy_86 ?_
        obtain ⟨hi23, h⟩ := ck_of h
        obtain ⟨hb24, h⟩ := ckb_of h
        refine wd_zast hC hW 36 wC_c36 hi23 (ckb_vp hb24) wC_t36 dX4_copy_87 (fun H locs hW => ?_)
        obtain ⟨S25, e26, h⟩ := nm_of h
        replace hW := wq_S e26 hW
        refine lv_aload_n hx hb dX4_copy_88 rfl (lv_at hl 0 rfl) ?_
        refine wd_get hC i4 hW 34 wC_c34 rfl 8 (Nat.le_of_ble_eq_true rfl) f35 rfl rfl dX4_copy_89 ?_
        refine lv_iload_n hx hb dX4_copy_92 rfl (lv_at hl 2 rfl) ?_
        refine lv_aload_n hx hb dX4_copy_93 rfl (lv_at hl 1 rfl) ?_
        refine wd_get hC i4 hW 25 wC_c25 rfl 8 (Nat.le_of_ble_eq_true rfl) f35 rfl rfl dX4_copy_94 ?_
        refine lv_iload_n hx hb dX4_copy_97 rfl (lv_at hl 2 rfl) ?_
        obtain ⟨hi27, h⟩ := ck_of h
        refine wd_iald hC hW 28 wC_c28 hi27 dX4_copy_98 ?_
        obtain ⟨hi28, h⟩ := ck_of h
        refine wd_iast hC hW 37 wC_c37 hi28 wC_t37 dX4_copy_99 (fun H locs hW => ?_)
        obtain ⟨S29, e30, h⟩ := nm_of h
        replace hW := wq_S e30 hW
        refine lv_aload_n hx hb dX4_copy_100 rfl (lv_at hl 0 rfl) ?_
        refine wd_get hC i4 hW 34 wC_c34 rfl 9 (Nat.le_of_ble_eq_true rfl) f38 rfl rfl dX4_copy_101 ?_
        refine lv_iload_n hx hb dX4_copy_104 rfl (lv_at hl 2 rfl) ?_
        refine lv_aload_n hx hb dX4_copy_105 rfl (lv_at hl 1 rfl) ?_
        refine wd_get hC i4 hW 25 wC_c25 rfl 9 (Nat.le_of_ble_eq_true rfl) f38 rfl rfl dX4_copy_106 ?_
        refine lv_iload_n hx hb dX4_copy_109 rfl (lv_at hl 2 rfl) ?_
        obtain ⟨hi31, h⟩ := ck_of h
        refine wd_zald hC hW 29 wC_c29 hi31 dX4_copy_110 ?_
        obtain ⟨hi32, h⟩ := ck_of h
        obtain ⟨hb33, h⟩ := ckb_of h
        refine wd_zast hC hW 38 wC_c38 hi32 (ckb_vp hb33) wC_t38 dX4_copy_111 (fun H locs hW => ?_)
        obtain ⟨S34, e35, h⟩ := nm_of h
        replace hW := wq_S e35 hW
        refine lv_aload_n hx hb dX4_copy_112 rfl (lv_at hl 0 rfl) ?_
        refine wd_get hC i4 hW 34 wC_c34 rfl 11 (Nat.le_of_ble_eq_true rfl) f44 rfl rfl dX4_copy_113 ?_
        refine lv_iload_n hx hb dX4_copy_116 rfl (lv_at hl 2 rfl) ?_
        refine lv_aload_n hx hb dX4_copy_117 rfl (lv_at hl 1 rfl) ?_
        refine wd_get hC i4 hW 25 wC_c25 rfl 11 (Nat.le_of_ble_eq_true rfl) f44 rfl rfl dX4_copy_118 ?_
        refine lv_iload_n hx hb dX4_copy_121 rfl (lv_at hl 2 rfl) ?_
        obtain ⟨hi36, h⟩ := ck_of h
        refine wd_iald hC hW 31 wC_c31 hi36 dX4_copy_122 ?_
        obtain ⟨hi37, h⟩ := ck_of h
        refine wd_iast hC hW 40 wC_c40 hi37 wC_t40 dX4_copy_123 (fun H locs hW => ?_)
        obtain ⟨S38, e39, h⟩ := nm_of h
        replace hW := wq_S e39 hW
        refine lv_aload_n hx hb dX4_copy_124 rfl (lv_at hl 0 rfl) ?_
        refine wd_get hC i4 hW 34 wC_c34 rfl 12 (Nat.le_of_ble_eq_true rfl) f47 rfl rfl dX4_copy_125 ?_
        refine lv_iload_n hx hb dX4_copy_128 rfl (lv_at hl 2 rfl) ?_
        refine lv_aload_n hx hb dX4_copy_129 rfl (lv_at hl 1 rfl) ?_
        refine wd_get hC i4 hW 25 wC_c25 rfl 12 (Nat.le_of_ble_eq_true rfl) f47 rfl rfl dX4_copy_130 ?_
        refine lv_iload_n hx hb dX4_copy_133 rfl (lv_at hl 2 rfl) ?_
        obtain ⟨hi40, h⟩ := ck_of h
        refine wd_iald hC hW 32 wC_c32 hi40 dX4_copy_134 ?_
        obtain ⟨hi41, h⟩ := ck_of h
        refine wd_iast hC hW 41 wC_c41 hi41 wC_t41 dX4_copy_135 (fun H locs hW => ?_)
        obtain ⟨S42, e43, h⟩ := nm_of h
        replace hW := wq_S e43 hW
        refine lv_iinc (v := x2 + 1) (lv' := [(2, .int (x2 + 1)), (0, .ref (ad 34)), (1, .ref (ad 25))]) hx hb dX4_copy_136 hl (k := 2) rfl rfl (by decide) rfl (fun ls hl => ?_)
        refine lv_goto (tgt := 58) hx hb dX4_copy_139 (by decide) ?_
        exact ih S42 (x2 + 1) _ _ _ r h hW (lv_sub hl [1, 2, 0] rfl) kk
  obtain ⟨q15, hq16, h⟩ := bd_of h
  refine hL58 n S13 0  _ _ _ q15 hq16 hW (lv_sub hl [1, 2, 0] rfl) (fun H locs ls hW hl => ?_)
  refine lv_iconst (v := 0) hx hb dX4_copy_142 (by decide) ?_
  refine lv_istore_n (lv' := [(2, .int 0), (0, .ref (ad 34)), (1, .ref (ad 25))]) hx hb dX4_copy_143 rfl hl (by decide) rfl (fun ls hl => ?_)
  have hL144 : ∀ (n : Nat) (S : St) (x2 : Int32)  (H : Heap) (locs : List Loc) (ls : Array Slot) (r : (St)), m_X4_copy_L144 n S x2 = some r → Wd D cy A s (wC ad cy S ++ X) H locs → lv_has ls 3 [(0, .ref (ad 34)), (1, .ref (ad 25)), (2, .int x2)] → (∀ (H : Heap) (locs : List Loc) (ls : Array Slot), Wd D cy A s (wC ad cy r ++ X) H locs → lv_has ls 3 [(0, .ref (ad 34)), (1, .ref (ad 25))] → W p l e (RM 0) s m args below meth c H locs 0 0 Q (F0 m 171 ls [])) → W p l e (RM 0) s m args below meth c H locs 0 0 Q (F0 m 144 ls []) := by
    intro n
    induction n with
    | zero =>
      intro S x2  H locs ls r h
      exact absurd (h.symm.trans (m_X4_copy_L144_0 ..)) (by simp)
    | succ n ih =>
      intro S x2  H locs ls r h hW hl kk
      rw [m_X4_copy_L144_s] at h
      refine lv_iload_n hx hb dX4_copy_144 rfl (lv_at hl 2 rfl) ?_
      refine lv_aload_n hx hb dX4_copy_145 rfl (lv_at hl 0 rfl) ?_
      refine wd_get hC i4 hW 34 wC_c34 rfl 10 (Nat.le_of_ble_eq_true rfl) f41 rfl rfl dX4_copy_146 ?_
      refine wd_alen hC hW 39 0 wC_c39 rfl (v := 18) rfl dX4_copy_149 ?_
      refine lv_icmp_ge (tgt := 171) hx hb dX4_copy_150 (by decide) (fun c46 => ?_) (fun c46 => ?_)
      · replace h := ite_t h c46
        obtain rfl := Option.some.inj h
        exact kk _ _ _ hW (lv_sub hl [0, 1] rfl)
      · replace h := ite_f h c46
        refine lv_aload_n hx hb dX4_copy_153 rfl (lv_at hl 0 rfl) ?_
        refine wd_get hC i4 hW 34 wC_c34 rfl 10 (Nat.le_of_ble_eq_true rfl) f41 rfl rfl dX4_copy_154 ?_
        refine lv_iload_n hx hb dX4_copy_157 rfl (lv_at hl 2 rfl) ?_
        refine lv_aload_n hx hb dX4_copy_158 rfl (lv_at hl 1 rfl) ?_
        refine wd_get hC i4 hW 25 wC_c25 rfl 10 (Nat.le_of_ble_eq_true rfl) f41 rfl rfl dX4_copy_159 ?_
        refine lv_iload_n hx hb dX4_copy_162 rfl (lv_at hl 2 rfl) ?_
        obtain ⟨hi47, h⟩ := ck_of h
        refine wd_iald hC hW 30 wC_c30 hi47 dX4_copy_163 ?_
        obtain ⟨hi48, h⟩ := ck_of h
        refine wd_iast hC hW 39 wC_c39 hi48 wC_t39 dX4_copy_164 (fun H locs hW => ?_)
        obtain ⟨S49, e50, h⟩ := nm_of h
        replace hW := wq_S e50 hW
        refine lv_iinc (v := x2 + 1) (lv' := [(2, .int (x2 + 1)), (0, .ref (ad 34)), (1, .ref (ad 25))]) hx hb dX4_copy_165 hl (k := 2) rfl rfl (by decide) rfl (fun ls hl => ?_)
        refine lv_goto (tgt := 144) hx hb dX4_copy_168 (by decide) ?_
        exact ih S49 (x2 + 1) _ _ _ r h hW (lv_sub hl [1, 2, 0] rfl) kk
  obtain ⟨q44, hq45, h⟩ := bd_of h
  refine hL144 n q15 0  _ _ _ q44 hq45 hW (lv_sub hl [1, 2, 0] rfl) (fun H locs ls hW hl => ?_)
  obtain rfl := Option.some.inj h
  exact wd_vret hA hQ hC hr hk hW dX4_copy_171
