theorem hdX2_prepare : yX2_prepare.cls = RX2 ∧ yX2_prepare.cls ≠ "java/lang/invoke/MethodHandle" ∧ yX2_prepare.cls ≠ "java/lang/invoke/VarHandle" ∧ (parseMethodDescriptor yX2_prepare.desc).map (fun d => d.parameters.length) = some 3 := by decide +kernel
theorem hdX2_valueFrom : yX2_valueFrom.cls = RX2 ∧ yX2_valueFrom.cls ≠ "java/lang/invoke/MethodHandle" ∧ yX2_valueFrom.cls ≠ "java/lang/invoke/VarHandle" ∧ (parseMethodDescriptor yX2_valueFrom.desc).map (fun d => d.parameters.length) = some 1 := by decide +kernel
theorem hdX5_findTry : yX5_findTry.cls = RX5 ∧ yX5_findTry.cls ≠ "java/lang/invoke/MethodHandle" ∧ yX5_findTry.cls ≠ "java/lang/invoke/VarHandle" ∧ (parseMethodDescriptor yX5_findTry.desc).map (fun d => d.parameters.length) = some 0 := by decide +kernel
theorem hdX5_take : yX5_take.cls = RX5 ∧ yX5_take.cls ≠ "java/lang/invoke/MethodHandle" ∧ yX5_take.cls ≠ "java/lang/invoke/VarHandle" ∧ (parseMethodDescriptor yX5_take.desc).map (fun d => d.parameters.length) = some 2 := by decide +kernel
theorem hdX8_aimToWin : yX8_aimToWin.cls = RX8 ∧ yX8_aimToWin.cls ≠ "java/lang/invoke/MethodHandle" ∧ yX8_aimToWin.cls ≠ "java/lang/invoke/VarHandle" ∧ (parseMethodDescriptor yX8_aimToWin.desc).map (fun d => d.parameters.length) = some 1 := by decide +kernel
theorem hdX8_byChoice : yX8_byChoice.cls = RX8 ∧ yX8_byChoice.cls ≠ "java/lang/invoke/MethodHandle" ∧ yX8_byChoice.cls ≠ "java/lang/invoke/VarHandle" ∧ (parseMethodDescriptor yX8_byChoice.desc).map (fun d => d.parameters.length) = some 1 := by decide +kernel
theorem hdX8_thinkFreely : yX8_thinkFreely.cls = RX8 ∧ yX8_thinkFreely.cls ≠ "java/lang/invoke/MethodHandle" ∧ yX8_thinkFreely.cls ≠ "java/lang/invoke/VarHandle" ∧ (parseMethodDescriptor yX8_thinkFreely.desc).map (fun d => d.parameters.length) = some 2 := by decide +kernel
section WR
variable {p : Program} {l : Launch} {e : Env} {R : Room} {s : State} {m : MethodId} {args : Array Value} {below : List Frame} {meth : Method} {c : Code} {H : Heap} {locs : List Loc} {Q : State → Prop}
variable {cc : ByteArray} {pc : Nat} {ls : Array Slot} {D : va_G} {cy : Nat → ClassId} {A : Nat → Prop} {nL : Nat} {w w' : va_W} {Ts : List Cond} {own : String}
theorem wd_aret (hA : A = va_A w s.heap.size) {v : Nat} (hQ : Q = ZQ below D cy w (some (.ref v)) w' args s) (hC : CallFix p m c cc nL s args Ts own) {rt : String} (hr : meth.sig.returnType = some (.object rt)) (hlocks : meth.locks = false) (hW : Wd D cy A s w' H locs) (hdg : decode cc pc = .ok (.areturn, 1)) : W p l e R s m args below meth c H locs 0 0 Q (F0 m pc ls [.ref v]) := by
  subst hA
  subst hQ
  exact W.aret hC.1 hC.2.1 hr (Or.inl ⟨_, rfl⟩) (Or.inr ⟨_, rfl⟩) (wd_end hW _) hW.2.2.2.1.2.2 hdg hlocks
end WR
def m_X8_thinkFreely (n : Nat) (S : St) (F : St) (p0 : Int32) (p1 : Int32) : Option (St × St) :=
  onw (S.2.2.2 2) 1 (fun j1 => ((if p1 = 0 then (some S) else ((m_X0_beStep n S).bind (fun r16 => some r16)) : Option (St))).bind (fun q5 => onw (q5.2.2.2 2) 1 (fun j7 => ck p0 7 ((m_X2_prepare n q5 F p0.toNatClampNeg (q5.1 31)).bind (fun r11 => onw (q5.2.2.2 2) 1 (fun j13 => some (q5, r11)))))))
set_option maxHeartbeats 4000000 in
set_option maxRecDepth 100000 in
theorem c_X8_thinkFreely (l : Launch) (D : va_G) (cy : Nat → ClassId) (ad : Nat → Nat) (X : va_W) (n : Nat) (S : St) (F : St) (p0 : Int32) (p1 : Int32) (r : (St × St)) (h : m_X8_thinkFreely n S F p0 p1 = some r) : CT l yX8_thinkFreely (wu yX8_thinkFreely cX8_thinkFreely 3 (some (.object "NextLoad$Free"))) 3 D cy [.ref (ad 0), .int p0, .int p1] (wC ad cy S ++ (wF ad cy F ++ X)) (some (.ref (ad 59))) (wC ad cy r.1 ++ (wF ad cy r.2 ++ X)) := by
  refine CT.mk (cc := cX8_thinkFreely) (maxL := 3) (ret := (some (.object "NextLoad$Free"))) (own := RX8) (by decide) rfl rfl (Nat.le_of_ble_eq_true rfl) ?_
  intro p e s m args below meth c ls A Q hA hQ hC hr hk hW hl
  have hx := hC.1
  have hb := hC.2.1
  have hown := hC.2.2.2.1
  have hts := hC.2.2.2.2
  have hl : lv_has ls 3 [(0, .ref (ad 0)), (1, .int p0), (2, .int p1)] := hl
  have f69 := hts _ (wu_in w_2_19)
  have i8 := (fun w h => wu_in (inc_8 w h) : ∀ w ∈ u_ws RX8 TX8 12, w ∈ (wu yX8_thinkFreely cX8_thinkFreely 3 (some (.object "NextLoad$Free"))))
  have f18 := hts _ (wu_in w_1_18)
  have f28 := hts _ (wu_in w_2_0)
  have f111 := hts _ (wu_in w_14_13)
  have i4 := (fun w h => wu_in (inc_4 w h) : ∀ w ∈ u_ws RX4 TX4 16, w ∈ (wu yX8_thinkFreely cX8_thinkFreely 3 (some (.object "NextLoad$Free"))))
  have f45 := hts _ (wu_in w_2_9)
  unfold m_X8_thinkFreely at h
  refine lv_aload_n hx hb dX8_thinkFreely_0 rfl (lv_at hl 0 rfl) ?_
  obtain ⟨j1, ej2, hj3, h⟩ := onw_of h
  refine wd_get (v := .ref (ad 59)) hC i8 hW 0 wC_c0 rfl 10 (Nat.le_of_ble_eq_true rfl) f69 rfl (congrArg some (by rw [ej2]; rfl)) dX8_thinkFreely_1 ?_
  refine lv_ifnonnull (tgt := 18) hx hb dX8_thinkFreely_4 (by decide) ?_
  refine lv_iload_n hx hb dX8_thinkFreely_18 rfl (lv_at hl 2 rfl) ?_
  obtain ⟨q5, hq6, h⟩ := bd_of h
  have hJ29 : ∀ (H : Heap) (locs : List Loc) (ls : Array Slot), Wd D cy A s (wC ad cy q5 ++ (wF ad cy F ++ X)) H locs → lv_has ls 3 [(0, .ref (ad 0)), (1, .int p0), (2, .int p1)] → W p l e (RM 3) s m args below meth c H locs 0 0 Q (F0 m 29 ls []) := by
    intro H locs ls hW hl
    refine lv_aload_n hx hb dX8_thinkFreely_29 rfl (lv_at hl 0 rfl) ?_
    obtain ⟨j7, ej8, hj9, h⟩ := onw_of h
    refine wd_get (v := .ref (ad 59)) hC i8 hW 0 wC_c0 rfl 10 (Nat.le_of_ble_eq_true rfl) f69 rfl (congrArg some (by rw [ej8]; rfl)) dX8_thinkFreely_30 ?_
    refine lv_aload_n hx hb dX8_thinkFreely_33 rfl (lv_at hl 0 rfl) ?_
    refine wd_get hC i8 hW 0 wC_c0 rfl 1 (Nat.le_of_ble_eq_true rfl) f18 rfl rfl dX8_thinkFreely_34 ?_
    refine lv_iload_n hx hb dX8_thinkFreely_37 rfl (lv_at hl 1 rfl) ?_
    obtain ⟨hi10, h⟩ := ck_of h
    refine wd_aldq hC hW 3 wC_c3 hi10 rfl dX8_thinkFreely_38 ?_
    refine lv_aload_n hx hb dX8_thinkFreely_39 rfl (lv_at hl 0 rfl) ?_
    refine wd_get hC i8 hW 0 wC_c0 rfl 2 (Nat.le_of_ble_eq_true rfl) f28 rfl rfl dX8_thinkFreely_40 ?_
    refine wd_get hC i4 hW 25 wC_c25 rfl 2 (Nat.le_of_ble_eq_true rfl) f111 rfl rfl dX8_thinkFreely_43 ?_
    refine lv_aload_n hx hb dX8_thinkFreely_46 rfl (lv_at hl 0 rfl) ?_
    refine wd_get hC i8 hW 0 wC_c0 rfl 5 (Nat.le_of_ble_eq_true rfl) f45 rfl rfl dX8_thinkFreely_47 ?_
    obtain ⟨r11, hr12, h⟩ := bd_of h
    refine wd_callV0 (As := [.ref (ad (4 + 3 * p0.toNatClampNeg)), .int (q5.1 31), .ref (ad 44)]) hC hW 59 wF_c59 rfl (c_X2_prepare l D cy ad X n q5 F p0.toNatClampNeg (q5.1 31) r11 hr12 (in_lt hi10)) (cwV 3 hts (gu_V w_36_2 w_35_23 w_36_0 w_36_1 w_35_6) rfl rfl rfl hdX2_prepare ⟨Nat.le_of_ble_eq_true rfl, Nat.le_of_ble_eq_true rfl⟩) rfl hl.1 rfl (Nat.le_of_ble_eq_true rfl) ⟨Nat.zero_le _, Nat.zero_le _⟩ dX8_thinkFreely_50 (fun H locs hW => ?_)
    refine lv_aload_n hx hb dX8_thinkFreely_53 rfl (lv_at hl 0 rfl) ?_
    obtain ⟨j13, ej14, hj15, h⟩ := onw_of h
    refine wd_get (v := .ref (ad 59)) hC i8 hW 0 wC_c0 rfl 10 (Nat.le_of_ble_eq_true rfl) f69 rfl (congrArg some (by rw [ej14]; rfl)) dX8_thinkFreely_54 ?_
    obtain rfl := Option.some.inj h
    exact wd_aret hA hQ hC hr hk hW dX8_thinkFreely_57
  replace h := hq6
  refine lv_if_eq (tgt := 29) hx hb dX8_thinkFreely_19 (by decide) (fun c4 => ?_) (fun c4 => ?_)
  · replace h := ite_t h c4
    obtain rfl := Option.some.inj h
    exact hJ29 _ _ _ hW (lv_sub hl [0, 1, 2] rfl)
  · replace h := ite_f h c4
    refine lv_aload_n hx hb dX8_thinkFreely_22 rfl (lv_at hl 0 rfl) ?_
    refine wd_get hC i8 hW 0 wC_c0 rfl 5 (Nat.le_of_ble_eq_true rfl) f45 rfl rfl dX8_thinkFreely_23 ?_
    obtain ⟨r16, hr17, h⟩ := bd_of h
    refine wd_callV0 (As := []) hC hW 44 wC_c44 rfl (c_X0_beStep l D cy ad (wF ad cy F ++ X) n S r16 hr17) (cwV 0 hts (gu_V w_31_2 w_30_23 w_31_0 w_31_1 w_2_8) rfl rfl rfl hdX0_beStep ⟨Nat.le_of_ble_eq_true rfl, Nat.le_of_ble_eq_true rfl⟩) rfl hl.1 rfl (Nat.le_of_ble_eq_true rfl) ⟨Nat.zero_le _, Nat.zero_le _⟩ dX8_thinkFreely_26 (fun H locs hW => ?_)
    obtain rfl := Option.some.inj h
    exact hJ29 _ _ _ hW (lv_sub hl [0, 1, 2] rfl)
def m_X8_byChoice (n : Nat) (S : St) (F : St) (p0 : Int32) : Option (Int32 × St × St) :=
  (m_X8_thinkFreely n S F p0 0).bind (fun r1 => (m_X5_look r1.1 p0).bind (fun r3 => (m_X5_findTry n r3).bind (fun r5 => (m_X2_valueFrom n r5.2 r1.2).bind (fun r7 => (m_X8_byPlan n r5.2 p0).bind (fun r9 => (m_X8_tellTwo r9.2 (r7.2.1 62) r9.1).bind (fun r11 => some (r7.1, r11, r7.2)))))))
set_option maxHeartbeats 4000000 in
set_option maxRecDepth 100000 in
theorem c_X8_byChoice (l : Launch) (D : va_G) (cy : Nat → ClassId) (ad : Nat → Nat) (X : va_W) (n : Nat) (S : St) (F : St) (p0 : Int32) (r : (Int32 × St × St)) (h : m_X8_byChoice n S F p0 = some r) : CT l yX8_byChoice (wu yX8_byChoice cX8_byChoice 5 (some .int)) 44 D cy [.ref (ad 0), .int p0] (wC ad cy S ++ (wF ad cy F ++ X)) (some (.int r.1)) (wC ad cy r.2.1 ++ (wF ad cy r.2.2 ++ X)) := by
  refine CT.mk (cc := cX8_byChoice) (maxL := 5) (ret := (some .int)) (own := RX8) (by decide) rfl rfl (Nat.le_of_ble_eq_true rfl) ?_
  intro p e s m args below meth c ls A Q hA hQ hC hr hk hW hl
  have hx := hC.1
  have hb := hC.2.1
  have hown := hC.2.2.2.1
  have hts := hC.2.2.2.2
  have hl : lv_has ls 5 [(0, .ref (ad 0)), (1, .int p0)] := hl
  have f38 := hts _ (wu_in w_2_5)
  have i8 := (fun w h => wu_in (inc_8 w h) : ∀ w ∈ u_ws RX8 TX8 12, w ∈ (wu yX8_byChoice cX8_byChoice 5 (some .int)))
  have f28 := hts _ (wu_in w_2_0)
  have f245 := hts _ (wu_in w_34_23)
  have i2 := (fun w h => wu_in (inc_2 w h) : ∀ w ∈ u_ws RX2 TX2 12, w ∈ (wu yX8_byChoice cX8_byChoice 5 (some .int)))
  unfold m_X8_byChoice at h
  refine lv_aload_n hx hb dX8_byChoice_0 rfl (lv_at hl 0 rfl) ?_
  refine lv_iload_n hx hb dX8_byChoice_1 rfl (lv_at hl 1 rfl) ?_
  refine lv_iconst (v := 0) hx hb dX8_byChoice_2 (by decide) ?_
  obtain ⟨r1, hr2, h⟩ := bd_of h
  refine wd_callV1 (As := [.int p0, .int 0]) hC hW 0 wC_c0 rfl (c_X8_thinkFreely l D cy ad X n S F p0 0 r1 hr2) (cwV 2 hts (gu_V w_35_3 w_35_0 w_35_1 w_35_2 w_1_2) rfl rfl rfl hdX8_thinkFreely ⟨Nat.le_of_ble_eq_true rfl, Nat.le_of_ble_eq_true rfl⟩) rfl hl.1 rfl (Nat.le_of_ble_eq_true rfl) ⟨Nat.zero_le _, Nat.zero_le _⟩ dX8_byChoice_3 (fun H locs hW => ?_)
  refine lv_astore_n (lv' := [(2, .ref (ad 59)), (0, .ref (ad 0)), (1, .int p0)]) hx hb dX8_byChoice_6 rfl hl (by decide) rfl (fun ls hl => ?_)
  refine lv_aload_n hx hb dX8_byChoice_7 rfl (lv_at hl 1 rfl) ?_
  refine wd_get hC i8 hW 0 wC_c0 rfl 4 (Nat.le_of_ble_eq_true rfl) f38 rfl rfl dX8_byChoice_8 ?_
  refine lv_aload_n hx hb dX8_byChoice_11 rfl (lv_at hl 1 rfl) ?_
  refine wd_get hC i8 hW 0 wC_c0 rfl 2 (Nat.le_of_ble_eq_true rfl) f28 rfl rfl dX8_byChoice_12 ?_
  refine lv_iload_n hx hb dX8_byChoice_15 rfl (lv_at hl 2 rfl) ?_
  obtain ⟨r3, hr4, h⟩ := bd_of h
  refine wd_callV0 (As := [.ref (ad 25), .int p0]) hC hW 43 wC_c43 rfl (c_X5_look l D cy ad (wF ad cy r1.2 ++ X) r1.1 p0 r3 hr4) (cwV 2 hts (gu_V w_26_4 w_26_1 w_26_2 w_26_3 w_2_4) rfl rfl rfl hdX5_look ⟨Nat.le_of_ble_eq_true rfl, Nat.le_of_ble_eq_true rfl⟩) rfl hl.1 rfl (Nat.le_of_ble_eq_true rfl) ⟨Nat.zero_le _, Nat.zero_le _⟩ dX8_byChoice_16 (fun H locs hW => ?_)
  refine lv_aload_n hx hb dX8_byChoice_19 rfl (lv_at hl 1 rfl) ?_
  refine wd_get hC i8 hW 0 wC_c0 rfl 4 (Nat.le_of_ble_eq_true rfl) f38 rfl rfl dX8_byChoice_20 ?_
  obtain ⟨r5, hr6, h⟩ := bd_of h
  refine wd_callV1 (As := []) hC hW 43 wC_c43 rfl (c_X5_findTry l D cy ad (wF ad cy r1.2 ++ X) n r3 r5 hr6) (cwV 0 hts (gu_V w_36_14 w_36_11 w_36_12 w_36_13 w_2_4) rfl rfl rfl hdX5_findTry ⟨Nat.le_of_ble_eq_true rfl, Nat.le_of_ble_eq_true rfl⟩) rfl hl.1 rfl (Nat.le_of_ble_eq_true rfl) ⟨Nat.zero_le _, Nat.zero_le _⟩ dX8_byChoice_23 (fun H locs hW => ?_)
  refine lv_pop hx hb dX8_byChoice_26 rfl ?_
  refine lv_aload_n hx hb dX8_byChoice_27 rfl (lv_at hl 0 rfl) ?_
  refine lv_aload_n hx hb dX8_byChoice_28 rfl (lv_at hl 1 rfl) ?_
  refine wd_get hC i8 hW 0 wC_c0 rfl 4 (Nat.le_of_ble_eq_true rfl) f38 rfl rfl dX8_byChoice_29 ?_
  obtain ⟨r7, hr8, h⟩ := bd_of h
  refine wd_callV1 (As := [.ref (ad 43)]) hC hW 59 wF_c59 rfl (c_X2_valueFrom l D cy ad X n r5.2 r1.2 r7 hr8) (cwV 1 hts (gu_V w_36_22 w_36_19 w_36_20 w_36_21 w_35_6) rfl rfl rfl hdX2_valueFrom ⟨Nat.le_of_ble_eq_true rfl, Nat.le_of_ble_eq_true rfl⟩) rfl hl.1 rfl (Nat.le_of_ble_eq_true rfl) ⟨Nat.zero_le _, Nat.zero_le _⟩ dX8_byChoice_32 (fun H locs hW => ?_)
  refine lv_istore_n (lv' := [(3, .int r7.1), (2, .ref (ad 59)), (0, .ref (ad 0)), (1, .int p0)]) hx hb dX8_byChoice_35 rfl hl (by decide) rfl (fun ls hl => ?_)
  refine lv_aload_n hx hb dX8_byChoice_36 rfl (lv_at hl 1 rfl) ?_
  refine wd_get hC i2 hW 59 wF_c59 rfl 0 (Nat.le_of_ble_eq_true rfl) f245 rfl rfl dX8_byChoice_37 ?_
  refine lv_istore (lv' := [(4, .int (r7.2.1 62)), (3, .int r7.1), (2, .ref (ad 59)), (0, .ref (ad 0)), (1, .int p0)]) hx hb dX8_byChoice_40 hl (by decide) rfl (fun ls hl => ?_)
  refine lv_aload_n hx hb dX8_byChoice_42 rfl (lv_at hl 3 rfl) ?_
  refine lv_iload hx hb dX8_byChoice_43 (lv_at hl 0 rfl) ?_
  refine lv_aload_n hx hb dX8_byChoice_45 rfl (lv_at hl 3 rfl) ?_
  refine lv_iload_n hx hb dX8_byChoice_46 rfl (lv_at hl 4 rfl) ?_
  obtain ⟨r9, hr10, h⟩ := bd_of h
  refine wd_callV1 (As := [.int p0]) hC hW 0 wC_c0 rfl (c_X8_byPlan l D cy ad (wF ad cy r7.2 ++ X) n r5.2 p0 r9 hr10) (cwV 1 hts (gu_V w_25_16 w_25_13 w_25_14 w_25_15 w_1_2) rfl rfl rfl hdX8_byPlan ⟨Nat.le_of_ble_eq_true rfl, Nat.le_of_ble_eq_true rfl⟩) rfl hl.1 rfl (Nat.le_of_ble_eq_true rfl) ⟨Nat.zero_le _, Nat.zero_le _⟩ dX8_byChoice_47 (fun H locs hW => ?_)
  obtain ⟨r11, hr12, h⟩ := bd_of h
  refine wd_callV0 (As := [.int (r7.2.1 62), .int r9.1]) hC hW 0 wC_c0 rfl (c_X8_tellTwo l D cy ad (wF ad cy r7.2 ++ X) r9.2 (r7.2.1 62) r9.1 r11 hr12) (cwV 2 hts (gu_V w_18_21 w_18_18 w_18_19 w_18_20 w_1_2) rfl rfl rfl hdX8_tellTwo ⟨Nat.le_of_ble_eq_true rfl, Nat.le_of_ble_eq_true rfl⟩) rfl hl.1 rfl (Nat.le_of_ble_eq_true rfl) ⟨Nat.zero_le _, Nat.zero_le _⟩ dX8_byChoice_50 (fun H locs hW => ?_)
  refine lv_iload_n hx hb dX8_byChoice_53 rfl (lv_at hl 1 rfl) ?_
  obtain rfl := Option.some.inj h
  exact wd_iret hA hQ hC hr hk hW dX8_byChoice_54
def m_X8_heavy (n : Nat) (S : St) (F : St) (p0 : Int32) : Option (Int32 × St × St) :=
  (m_X8_isLifter S p0).bind (fun r1 => if r1 = 0 then (some ((-1), S, F)) else ((m_X0_beMass n S).bind (fun r4 => (m_X8_byChoice n r4 F p0).bind (fun r6 => some (r6.1, r6.2.1, r6.2.2)))))
set_option maxHeartbeats 4000000 in
set_option maxRecDepth 100000 in
theorem c_X8_heavy (l : Launch) (D : va_G) (cy : Nat → ClassId) (ad : Nat → Nat) (X : va_W) (n : Nat) (S : St) (F : St) (p0 : Int32) (r : (Int32 × St × St)) (h : m_X8_heavy n S F p0 = some r) : CT l yX8_heavy (wu yX8_heavy cX8_heavy 2 (some .int)) 45 D cy [.ref (ad 0), .int p0] (wC ad cy S ++ (wF ad cy F ++ X)) (some (.int r.1)) (wC ad cy r.2.1 ++ (wF ad cy r.2.2 ++ X)) := by
  refine CT.mk (cc := cX8_heavy) (maxL := 2) (ret := (some .int)) (own := RX8) (by decide) rfl rfl (Nat.le_of_ble_eq_true rfl) ?_
  intro p e s m args below meth c ls A Q hA hQ hC hr hk hW hl
  have hx := hC.1
  have hb := hC.2.1
  have hown := hC.2.2.2.1
  have hts := hC.2.2.2.2
  have hl : lv_has ls 2 [(0, .ref (ad 0)), (1, .int p0)] := hl
  have f45 := hts _ (wu_in w_2_9)
  have i8 := (fun w h => wu_in (inc_8 w h) : ∀ w ∈ u_ws RX8 TX8 12, w ∈ (wu yX8_heavy cX8_heavy 2 (some .int)))
  unfold m_X8_heavy at h
  refine lv_aload_n hx hb dX8_heavy_0 rfl (lv_at hl 0 rfl) ?_
  refine lv_iload_n hx hb dX8_heavy_1 rfl (lv_at hl 1 rfl) ?_
  obtain ⟨r1, hr2, h⟩ := bd_of h
  refine wd_callV1 (As := [.int p0]) hC hW 0 wC_c0 rfl (c_X8_isLifter l D cy ad (wF ad cy F ++ X) S p0 r1 hr2) (cwV 1 hts (gu_V w_13_9 w_13_6 w_13_7 w_13_8 w_1_2) rfl rfl rfl hdX8_isLifter ⟨Nat.le_of_ble_eq_true rfl, Nat.le_of_ble_eq_true rfl⟩) rfl hl.1 rfl (Nat.le_of_ble_eq_true rfl) ⟨Nat.zero_le _, Nat.zero_le _⟩ dX8_heavy_2 (fun H locs hW => ?_)
  refine lv_if_ne (tgt := 10) hx hb dX8_heavy_5 (by decide) (fun c3 => ?_) (fun c3 => ?_)
  · replace h := ite_f h c3
    refine lv_aload_n hx hb dX8_heavy_10 rfl (lv_at hl 0 rfl) ?_
    refine wd_get hC i8 hW 0 wC_c0 rfl 5 (Nat.le_of_ble_eq_true rfl) f45 rfl rfl dX8_heavy_11 ?_
    obtain ⟨r4, hr5, h⟩ := bd_of h
    refine wd_callV0 (As := []) hC hW 44 wC_c44 rfl (c_X0_beMass l D cy ad (wF ad cy F ++ X) n S r4 hr5) (cwV 0 hts (gu_V w_25_12 w_25_9 w_25_10 w_25_11 w_2_8) rfl rfl rfl hdX0_beMass ⟨Nat.le_of_ble_eq_true rfl, Nat.le_of_ble_eq_true rfl⟩) rfl hl.1 rfl (Nat.le_of_ble_eq_true rfl) ⟨Nat.zero_le _, Nat.zero_le _⟩ dX8_heavy_14 (fun H locs hW => ?_)
    refine lv_aload_n hx hb dX8_heavy_17 rfl (lv_at hl 0 rfl) ?_
    refine lv_iload_n hx hb dX8_heavy_18 rfl (lv_at hl 1 rfl) ?_
    obtain ⟨r6, hr7, h⟩ := bd_of h
    refine wd_callV1 (As := [.int p0]) hC hW 0 wC_c0 rfl (c_X8_byChoice l D cy ad X n r4 F p0 r6 hr7) (cwV 1 hts (gu_V w_34_22 w_34_19 w_34_20 w_34_21 w_1_2) rfl rfl rfl hdX8_byChoice ⟨Nat.le_of_ble_eq_true rfl, Nat.le_of_ble_eq_true rfl⟩) rfl hl.1 rfl (Nat.le_of_ble_eq_true rfl) ⟨Nat.zero_le _, Nat.zero_le _⟩ dX8_heavy_19 (fun H locs hW => ?_)
    obtain rfl := Option.some.inj h
    exact wd_iret hA hQ hC hr hk hW dX8_heavy_22
  · replace h := ite_t h c3
    refine lv_iconst (v := (-1)) hx hb dX8_heavy_8 (by decide) ?_
    obtain rfl := Option.some.inj h
    exact wd_iret hA hQ hC hr hk hW dX8_heavy_9
def m_X8_reach (n : Nat) (S : St) (F : St) (p0 : Int32) (p1 : Int32) : Option (Int32 × St × St) :=
  (m_X8_isLifter S p0).bind (fun r1 => if r1 = 0 then (some ((-1), S, F)) else ((m_X8_isAimed S p1).bind (fun r4 => if r4 = 0 then (some ((-1), S, F)) else ((m_X0_beReach n S p1).bind (fun r7 => (m_X8_byChoice n r7 F p0).bind (fun r9 => some (r9.1, r9.2.1, r9.2.2)))))))
set_option maxHeartbeats 4000000 in
set_option maxRecDepth 100000 in
theorem c_X8_reach (l : Launch) (D : va_G) (cy : Nat → ClassId) (ad : Nat → Nat) (X : va_W) (n : Nat) (S : St) (F : St) (p0 : Int32) (p1 : Int32) (r : (Int32 × St × St)) (h : m_X8_reach n S F p0 p1 = some r) : CT l yX8_reach (wu yX8_reach cX8_reach 3 (some .int)) 45 D cy [.ref (ad 0), .int p0, .int p1] (wC ad cy S ++ (wF ad cy F ++ X)) (some (.int r.1)) (wC ad cy r.2.1 ++ (wF ad cy r.2.2 ++ X)) := by
  refine CT.mk (cc := cX8_reach) (maxL := 3) (ret := (some .int)) (own := RX8) (by decide) rfl rfl (Nat.le_of_ble_eq_true rfl) ?_
  intro p e s m args below meth c ls A Q hA hQ hC hr hk hW hl
  have hx := hC.1
  have hb := hC.2.1
  have hown := hC.2.2.2.1
  have hts := hC.2.2.2.2
  have hl : lv_has ls 3 [(0, .ref (ad 0)), (1, .int p0), (2, .int p1)] := hl
  have f45 := hts _ (wu_in w_2_9)
  have i8 := (fun w h => wu_in (inc_8 w h) : ∀ w ∈ u_ws RX8 TX8 12, w ∈ (wu yX8_reach cX8_reach 3 (some .int)))
  unfold m_X8_reach at h
  refine lv_aload_n hx hb dX8_reach_0 rfl (lv_at hl 0 rfl) ?_
  refine lv_iload_n hx hb dX8_reach_1 rfl (lv_at hl 1 rfl) ?_
  obtain ⟨r1, hr2, h⟩ := bd_of h
  refine wd_callV1 (As := [.int p0]) hC hW 0 wC_c0 rfl (c_X8_isLifter l D cy ad (wF ad cy F ++ X) S p0 r1 hr2) (cwV 1 hts (gu_V w_13_9 w_13_6 w_13_7 w_13_8 w_1_2) rfl rfl rfl hdX8_isLifter ⟨Nat.le_of_ble_eq_true rfl, Nat.le_of_ble_eq_true rfl⟩) rfl hl.1 rfl (Nat.le_of_ble_eq_true rfl) ⟨Nat.zero_le _, Nat.zero_le _⟩ dX8_reach_2 (fun H locs hW => ?_)
  refine lv_if_eq (tgt := 15) hx hb dX8_reach_5 (by decide) (fun c3 => ?_) (fun c3 => ?_)
  · replace h := ite_t h c3
    refine lv_iconst (v := (-1)) hx hb dX8_reach_15 (by decide) ?_
    obtain rfl := Option.some.inj h
    exact wd_iret hA hQ hC hr hk hW dX8_reach_16
  · replace h := ite_f h c3
    refine lv_iload_n hx hb dX8_reach_8 rfl (lv_at hl 2 rfl) ?_
    obtain ⟨r4, hr5, h⟩ := bd_of h
    refine wd_callS1 (As := [.int p1]) hC hW (c_X8_isAimed l D cy ad (wF ad cy F ++ X) S p1 r4 hr5) (va_cwS 1 hts (gu_S w_29_14 w_29_12 w_29_13 w_1_2) rfl rfl rfl hdX8_isAimed ⟨Nat.le_of_ble_eq_true rfl, Nat.le_of_ble_eq_true rfl⟩) rfl hl.1 rfl (Nat.le_of_ble_eq_true rfl) ⟨Nat.zero_le _, Nat.zero_le _⟩ dX8_reach_9 (fun H locs hW => ?_)
    refine lv_if_ne (tgt := 17) hx hb dX8_reach_12 (by decide) (fun c6 => ?_) (fun c6 => ?_)
    · replace h := ite_f h c6
      refine lv_aload_n hx hb dX8_reach_17 rfl (lv_at hl 0 rfl) ?_
      refine wd_get hC i8 hW 0 wC_c0 rfl 5 (Nat.le_of_ble_eq_true rfl) f45 rfl rfl dX8_reach_18 ?_
      refine lv_iload_n hx hb dX8_reach_21 rfl (lv_at hl 2 rfl) ?_
      obtain ⟨r7, hr8, h⟩ := bd_of h
      refine wd_callV0 (As := [.int p1]) hC hW 44 wC_c44 rfl (c_X0_beReach l D cy ad (wF ad cy F ++ X) n S p1 r7 hr8) (cwV 1 hts (gu_V w_29_18 w_29_15 w_29_16 w_29_17 w_2_8) rfl rfl rfl hdX0_beReach ⟨Nat.le_of_ble_eq_true rfl, Nat.le_of_ble_eq_true rfl⟩) rfl hl.1 rfl (Nat.le_of_ble_eq_true rfl) ⟨Nat.zero_le _, Nat.zero_le _⟩ dX8_reach_22 (fun H locs hW => ?_)
      refine lv_aload_n hx hb dX8_reach_25 rfl (lv_at hl 0 rfl) ?_
      refine lv_iload_n hx hb dX8_reach_26 rfl (lv_at hl 1 rfl) ?_
      obtain ⟨r9, hr10, h⟩ := bd_of h
      refine wd_callV1 (As := [.int p0]) hC hW 0 wC_c0 rfl (c_X8_byChoice l D cy ad X n r7 F p0 r9 hr10) (cwV 1 hts (gu_V w_34_22 w_34_19 w_34_20 w_34_21 w_1_2) rfl rfl rfl hdX8_byChoice ⟨Nat.le_of_ble_eq_true rfl, Nat.le_of_ble_eq_true rfl⟩) rfl hl.1 rfl (Nat.le_of_ble_eq_true rfl) ⟨Nat.zero_le _, Nat.zero_le _⟩ dX8_reach_27 (fun H locs hW => ?_)
      obtain rfl := Option.some.inj h
      exact wd_iret hA hQ hC hr hk hW dX8_reach_30
    · replace h := ite_t h c6
      refine lv_iconst (v := (-1)) hx hb dX8_reach_15 (by decide) ?_
      obtain rfl := Option.some.inj h
      exact wd_iret hA hQ hC hr hk hW dX8_reach_16
def m_X8_aim_L39 : Nat → St → St → Int32 → Int32 → Int32 → Int32 → Int32 → Option (St × St × Int32 × Int32)
  | 0, _, _, _, _, _, _, _ => none
  | n + 1, S, F, x1, x2, x4, x5, x6 =>
    if x6 ≤ 0 then (some (S, F, x4, x5)) else (if 120 < (x4 + x6) then (m_X8_aim_L39 n S F x1 x2 x4 x5 (x6 / 2)) else ((m_X5_look S x1).bind (fun r12 => nm (sI r12 52 ((r12.1 52) + (121 - (x4 + x6)))) (fun S14 => (m_X2_valueFrom n S14 F).bind (fun r16 => if r16.1 < x2 then (m_X8_aim_L39 n S14 r16.2 x1 x2 x4 x5 (x6 / 2)) else (m_X8_aim_L39 n S14 r16.2 x1 x2 (x4 + x6) r16.1 (x6 / 2)))))))
theorem m_X8_aim_L39_0 (S : St) (F : St) (x1 : Int32) (x2 : Int32) (x4 : Int32) (x5 : Int32) (x6 : Int32) : m_X8_aim_L39 0 S F x1 x2 x4 x5 x6 = none := rfl
theorem m_X8_aim_L39_s {n : Nat} {S : St} {F : St} {x1 : Int32} {x2 : Int32} {x4 : Int32} {x5 : Int32} {x6 : Int32} : m_X8_aim_L39 (n + 1) S F x1 x2 x4 x5 x6 =
    (if x6 ≤ 0 then (some (S, F, x4, x5)) else (if 120 < (x4 + x6) then (m_X8_aim_L39 n S F x1 x2 x4 x5 (x6 / 2)) else ((m_X5_look S x1).bind (fun r12 => nm (sI r12 52 ((r12.1 52) + (121 - (x4 + x6)))) (fun S14 => (m_X2_valueFrom n S14 F).bind (fun r16 => if r16.1 < x2 then (m_X8_aim_L39 n S14 r16.2 x1 x2 x4 x5 (x6 / 2)) else (m_X8_aim_L39 n S14 r16.2 x1 x2 (x4 + x6) r16.1 (x6 / 2)))))))) := rfl
def m_X8_aim (n : Nat) (S : St) (F : St) (p0 : Int32) (p1 : Int32) : Option (Int32 × St × St) :=
  (m_X8_isLifter S p0).bind (fun r1 => if r1 = 0 then (some ((-1), S, F)) else (if p1 < 1 then (some ((-1), S, F)) else (if p1 ≤ 1000000 then ((m_X8_thinkFreely n S F p0 1).bind (fun r6 => (m_X8_aim_L39 n r6.1 r6.2 p0 p1 0 1000000 64).bind (fun q8 => ck 0 9 (nm (sJ q8.1 58 ((0 : Int32).toNatClampNeg) q8.2.2.2.toInt64) (fun S20 => nm (sI S20 0 1) (fun S22 => some (q8.2.2.1, S22, q8.2.1))))))) else (some ((-1), S, F)))))
set_option maxHeartbeats 4000000 in
set_option maxRecDepth 100000 in
theorem c_X8_aim (l : Launch) (D : va_G) (cy : Nat → ClassId) (ad : Nat → Nat) (X : va_W) (n : Nat) (S : St) (F : St) (p0 : Int32) (p1 : Int32) (r : (Int32 × St × St)) (h : m_X8_aim n S F p0 p1 = some r) : CT l yX8_aim (wu yX8_aim cX8_aim 9 (some .int)) 29 D cy [.ref (ad 0), .int p0, .int p1] (wC ad cy S ++ (wF ad cy F ++ X)) (some (.int r.1)) (wC ad cy r.2.1 ++ (wF ad cy r.2.2 ++ X)) := by
  refine CT.mk (cc := cX8_aim) (maxL := 9) (ret := (some .int)) (own := RX8) (by decide) rfl rfl (Nat.le_of_ble_eq_true rfl) ?_
  intro p e s m args below meth c ls A Q hA hQ hC hr hk hW hl
  have hx := hC.1
  have hb := hC.2.1
  have hown := hC.2.2.2.1
  have hts := hC.2.2.2.2
  have hl : lv_has ls 9 [(0, .ref (ad 0)), (1, .int p0), (2, .int p1)] := hl
  have k213 := hts _ (wu_in w_30_22)
  have f38 := hts _ (wu_in w_2_5)
  have i8 := (fun w h => wu_in (inc_8 w h) : ∀ w ∈ u_ws RX8 TX8 12, w ∈ (wu yX8_aim cX8_aim 9 (some .int)))
  have f28 := hts _ (wu_in w_2_0)
  have f229 := hts _ (wu_in w_30_21)
  have i5 := (fun w h => wu_in (inc_5 w h) : ∀ w ∈ u_ws RX5 TX5 8, w ∈ (wu yX8_aim cX8_aim 9 (some .int)))
  have f61 := hts _ (wu_in w_2_17)
  have f65 := hts _ (wu_in w_2_18)
  unfold m_X8_aim at h
  refine lv_aload_n hx hb dX8_aim_0 rfl (lv_at hl 0 rfl) ?_
  refine lv_iload_n hx hb dX8_aim_1 rfl (lv_at hl 1 rfl) ?_
  obtain ⟨r1, hr2, h⟩ := bd_of h
  refine wd_callV1 (As := [.int p0]) hC hW 0 wC_c0 rfl (c_X8_isLifter l D cy ad (wF ad cy F ++ X) S p0 r1 hr2) (cwV 1 hts (gu_V w_13_9 w_13_6 w_13_7 w_13_8 w_1_2) rfl rfl rfl hdX8_isLifter ⟨Nat.le_of_ble_eq_true rfl, Nat.le_of_ble_eq_true rfl⟩) rfl hl.1 rfl (Nat.le_of_ble_eq_true rfl) ⟨Nat.zero_le _, Nat.zero_le _⟩ dX8_aim_2 (fun H locs hW => ?_)
  refine lv_if_eq (tgt := 19) hx hb dX8_aim_5 (by decide) (fun c3 => ?_) (fun c3 => ?_)
  · replace h := ite_t h c3
    refine lv_iconst (v := (-1)) hx hb dX8_aim_19 (by decide) ?_
    obtain rfl := Option.some.inj h
    exact wd_iret hA hQ hC hr hk hW dX8_aim_20
  · replace h := ite_f h c3
    refine lv_iload_n hx hb dX8_aim_8 rfl (lv_at hl 2 rfl) ?_
    refine lv_iconst (v := 1) hx hb dX8_aim_9 (by decide) ?_
    refine lv_icmp_lt (tgt := 19) hx hb dX8_aim_10 (by decide) (fun c4 => ?_) (fun c4 => ?_)
    · replace h := ite_t h c4
      refine lv_iconst (v := (-1)) hx hb dX8_aim_19 (by decide) ?_
      obtain rfl := Option.some.inj h
      exact wd_iret hA hQ hC hr hk hW dX8_aim_20
    · replace h := ite_f h c4
      refine lv_iload_n hx hb dX8_aim_13 rfl (lv_at hl 2 rfl) ?_
      refine lv_ldc hx hb hown k213 dX8_aim_14 ?_
      refine lv_icmp_le (tgt := 21) hx hb dX8_aim_16 (by decide) (fun c5 => ?_) (fun c5 => ?_)
      · replace h := ite_t h c5
        refine lv_aload_n hx hb dX8_aim_21 rfl (lv_at hl 0 rfl) ?_
        refine lv_iload_n hx hb dX8_aim_22 rfl (lv_at hl 1 rfl) ?_
        refine lv_iconst (v := 1) hx hb dX8_aim_23 (by decide) ?_
        obtain ⟨r6, hr7, h⟩ := bd_of h
        refine wd_callV1 (As := [.int p0, .int 1]) hC hW 0 wC_c0 rfl (c_X8_thinkFreely l D cy ad X n S F p0 1 r6 hr7) (cwV 2 hts (gu_V w_35_3 w_35_0 w_35_1 w_35_2 w_1_2) rfl rfl rfl hdX8_thinkFreely ⟨Nat.le_of_ble_eq_true rfl, Nat.le_of_ble_eq_true rfl⟩) rfl hl.1 rfl (Nat.le_of_ble_eq_true rfl) ⟨Nat.zero_le _, Nat.zero_le _⟩ dX8_aim_24 (fun H locs hW => ?_)
        refine lv_astore_n (lv' := [(3, .ref (ad 59)), (0, .ref (ad 0)), (1, .int p0), (2, .int p1)]) hx hb dX8_aim_27 rfl hl (by decide) rfl (fun ls hl => ?_)
        refine lv_iconst (v := 0) hx hb dX8_aim_28 (by decide) ?_
        refine lv_istore (lv' := [(4, .int 0), (3, .ref (ad 59)), (0, .ref (ad 0)), (1, .int p0), (2, .int p1)]) hx hb dX8_aim_29 hl (by decide) rfl (fun ls hl => ?_)
        refine lv_ldc hx hb hown k213 dX8_aim_31 ?_
        refine lv_istore (lv' := [(5, .int 1000000), (4, .int 0), (3, .ref (ad 59)), (0, .ref (ad 0)), (1, .int p0), (2, .int p1)]) hx hb dX8_aim_33 hl (by decide) rfl (fun ls hl => ?_)
        refine lv_bipush (v := 64) hx hb dX8_aim_35 (by decide) ?_
        refine lv_istore (lv' := [(6, .int 64), (5, .int 1000000), (4, .int 0), (3, .ref (ad 59)), (0, .ref (ad 0)), (1, .int p0), (2, .int p1)]) hx hb dX8_aim_37 hl (by decide) rfl (fun ls hl => ?_)
        have hL39 : ∀ (n : Nat) (S : St) (F : St) (x1 : Int32) (x2 : Int32) (x4 : Int32) (x5 : Int32) (x6 : Int32)  (H : Heap) (locs : List Loc) (ls : Array Slot) (r : (St × St × Int32 × Int32)), m_X8_aim_L39 n S F x1 x2 x4 x5 x6 = some r → Wd D cy A s (wC ad cy S ++ (wF ad cy F ++ X)) H locs → lv_has ls 9 [(0, .ref (ad 0)), (1, .int x1), (2, .int x2), (3, .ref (ad 59)), (4, .int x4), (5, .int x5), (6, .int x6)] → (∀ (H : Heap) (locs : List Loc) (ls : Array Slot), Wd D cy A s (wC ad cy r.1 ++ (wF ad cy r.2.1 ++ X)) H locs → lv_has ls 9 [(0, .ref (ad 0)), (1, .int x1), (2, .int x2), (3, .ref (ad 59)), (4, .int r.2.2.1), (5, .int r.2.2.2)] → W p l e (RM 29) s m args below meth c H locs 0 0 Q (F0 m 120 ls [])) → W p l e (RM 29) s m args below meth c H locs 0 0 Q (F0 m 39 ls []) := by
          intro n
          induction n with
          | zero =>
            intro S F x1 x2 x4 x5 x6  H locs ls r h
            exact absurd (h.symm.trans (m_X8_aim_L39_0 ..)) (by simp)
          | succ n ih =>
            intro S F x1 x2 x4 x5 x6  H locs ls r h hW hl kk
            rw [m_X8_aim_L39_s] at h
            refine lv_iload hx hb dX8_aim_39 (lv_at hl 6 rfl) ?_
            refine lv_if_le (tgt := 120) hx hb dX8_aim_41 (by decide) (fun c10 => ?_) (fun c10 => ?_)
            · replace h := ite_t h c10
              obtain rfl := Option.some.inj h
              exact kk _ _ _ hW (lv_sub hl [0, 1, 2, 3, 4, 5] rfl)
            · replace h := ite_f h c10
              refine lv_iload hx hb dX8_aim_44 (lv_at hl 4 rfl) ?_
              refine lv_iload hx hb dX8_aim_46 (lv_at hl 6 rfl) ?_
              refine lv_iadd hx hb dX8_aim_48 ?_
              refine lv_istore (lv' := [(7, .int (x4 + x6)), (0, .ref (ad 0)), (1, .int x1), (2, .int x2), (3, .ref (ad 59)), (4, .int x4), (5, .int x5), (6, .int x6)]) hx hb dX8_aim_49 hl (by decide) rfl (fun ls hl => ?_)
              refine lv_iload hx hb dX8_aim_51 (lv_at hl 0 rfl) ?_
              refine lv_bipush (v := 120) hx hb dX8_aim_53 (by decide) ?_
              refine lv_icmp_gt (tgt := 111) hx hb dX8_aim_55 (by decide) (fun c11 => ?_) (fun c11 => ?_)
              · replace h := ite_t h c11
                refine lv_iload hx hb dX8_aim_111 (lv_at hl 7 rfl) ?_
                refine lv_iconst (v := 2) hx hb dX8_aim_113 (by decide) ?_
                refine lv_idiv hx hb dX8_aim_114 (by decide) ?_
                refine lv_istore (lv' := [(6, .int (x6 / 2)), (7, .int (x4 + x6)), (0, .ref (ad 0)), (1, .int x1), (2, .int x2), (3, .ref (ad 59)), (4, .int x4), (5, .int x5)]) hx hb dX8_aim_115 hl (by decide) rfl (fun ls hl => ?_)
                refine lv_goto (tgt := 39) hx hb dX8_aim_117 (by decide) ?_
                exact ih S F x1 x2 x4 x5 (x6 / 2) _ _ _ r h hW (lv_sub hl [2, 3, 4, 5, 6, 7, 0] rfl) kk
              · replace h := ite_f h c11
                refine lv_aload_n hx hb dX8_aim_58 rfl (lv_at hl 1 rfl) ?_
                refine wd_get hC i8 hW 0 wC_c0 rfl 4 (Nat.le_of_ble_eq_true rfl) f38 rfl rfl dX8_aim_59 ?_
                refine lv_aload_n hx hb dX8_aim_62 rfl (lv_at hl 1 rfl) ?_
                refine wd_get hC i8 hW 0 wC_c0 rfl 2 (Nat.le_of_ble_eq_true rfl) f28 rfl rfl dX8_aim_63 ?_
                refine lv_iload_n hx hb dX8_aim_66 rfl (lv_at hl 2 rfl) ?_
                obtain ⟨r12, hr13, h⟩ := bd_of h
                refine wd_callV0 (As := [.ref (ad 25), .int x1]) hC hW 43 wC_c43 rfl (c_X5_look l D cy ad (wF ad cy F ++ X) S x1 r12 hr13) (cwV 2 hts (gu_V w_26_4 w_26_1 w_26_2 w_26_3 w_2_4) rfl rfl rfl hdX5_look ⟨Nat.le_of_ble_eq_true rfl, Nat.le_of_ble_eq_true rfl⟩) rfl hl.1 rfl (Nat.le_of_ble_eq_true rfl) ⟨Nat.zero_le _, Nat.zero_le _⟩ dX8_aim_67 (fun H locs hW => ?_)
                refine lv_aload_n hx hb dX8_aim_70 rfl (lv_at hl 1 rfl) ?_
                refine wd_get hC i8 hW 0 wC_c0 rfl 4 (Nat.le_of_ble_eq_true rfl) f38 rfl rfl dX8_aim_71 ?_
                refine lv_dup hx hb dX8_aim_74 rfl ?_
                refine wd_get hC i5 hW 43 wC_c43 rfl 2 (Nat.le_of_ble_eq_true rfl) f229 rfl rfl dX8_aim_75 ?_
                refine lv_bipush (v := 121) hx hb dX8_aim_78 (by decide) ?_
                refine lv_iload hx hb dX8_aim_80 (lv_at hl 0 rfl) ?_
                refine lv_isub hx hb dX8_aim_82 ?_
                refine lv_iadd hx hb dX8_aim_83 ?_
                refine wd_put hC i5 tyX5_ok nmX5 hW 43 wC_c43 rfl 2 (Nat.le_of_ble_eq_true rfl) f229 rfl rfl rfl rfl (Nat.le_of_ble_eq_true rfl) wC_s43_2 dX8_aim_84 (fun H locs hW => ?_)
                obtain ⟨S14, e15, h⟩ := nm_of h
                replace hW := wq_S e15 hW
                refine lv_aload_n hx hb dX8_aim_87 rfl (lv_at hl 4 rfl) ?_
                refine lv_aload_n hx hb dX8_aim_88 rfl (lv_at hl 1 rfl) ?_
                refine wd_get hC i8 hW 0 wC_c0 rfl 4 (Nat.le_of_ble_eq_true rfl) f38 rfl rfl dX8_aim_89 ?_
                obtain ⟨r16, hr17, h⟩ := bd_of h
                refine wd_callV1 (As := [.ref (ad 43)]) hC hW 59 wF_c59 rfl (c_X2_valueFrom l D cy ad X n S14 F r16 hr17) (cwV 1 hts (gu_V w_36_22 w_36_19 w_36_20 w_36_21 w_35_6) rfl rfl rfl hdX2_valueFrom ⟨Nat.le_of_ble_eq_true rfl, Nat.le_of_ble_eq_true rfl⟩) rfl hl.1 rfl (Nat.le_of_ble_eq_true rfl) ⟨Nat.zero_le _, Nat.zero_le _⟩ dX8_aim_92 (fun H locs hW => ?_)
                refine lv_istore (lv' := [(8, .int r16.1), (7, .int (x4 + x6)), (0, .ref (ad 0)), (1, .int x1), (2, .int x2), (3, .ref (ad 59)), (4, .int x4), (5, .int x5), (6, .int x6)]) hx hb dX8_aim_95 hl (by decide) rfl (fun ls hl => ?_)
                refine lv_iload hx hb dX8_aim_97 (lv_at hl 0 rfl) ?_
                refine lv_iload_n hx hb dX8_aim_99 rfl (lv_at hl 4 rfl) ?_
                refine lv_icmp_lt (tgt := 111) hx hb dX8_aim_100 (by decide) (fun c18 => ?_) (fun c18 => ?_)
                · replace h := ite_t h c18
                  refine lv_iload hx hb dX8_aim_111 (lv_at hl 8 rfl) ?_
                  refine lv_iconst (v := 2) hx hb dX8_aim_113 (by decide) ?_
                  refine lv_idiv hx hb dX8_aim_114 (by decide) ?_
                  refine lv_istore (lv' := [(6, .int (x6 / 2)), (8, .int r16.1), (7, .int (x4 + x6)), (0, .ref (ad 0)), (1, .int x1), (2, .int x2), (3, .ref (ad 59)), (4, .int x4), (5, .int x5)]) hx hb dX8_aim_115 hl (by decide) rfl (fun ls hl => ?_)
                  refine lv_goto (tgt := 39) hx hb dX8_aim_117 (by decide) ?_
                  exact ih S14 r16.2 x1 x2 x4 x5 (x6 / 2) _ _ _ r h hW (lv_sub hl [3, 4, 5, 6, 7, 8, 0] rfl) kk
                · replace h := ite_f h c18
                  refine lv_iload hx hb dX8_aim_103 (lv_at hl 1 rfl) ?_
                  refine lv_istore (lv' := [(4, .int (x4 + x6)), (8, .int r16.1), (7, .int (x4 + x6)), (0, .ref (ad 0)), (1, .int x1), (2, .int x2), (3, .ref (ad 59)), (5, .int x5), (6, .int x6)]) hx hb dX8_aim_105 hl (by decide) rfl (fun ls hl => ?_)
                  refine lv_iload hx hb dX8_aim_107 (lv_at hl 1 rfl) ?_
                  refine lv_istore (lv' := [(5, .int r16.1), (4, .int (x4 + x6)), (8, .int r16.1), (7, .int (x4 + x6)), (0, .ref (ad 0)), (1, .int x1), (2, .int x2), (3, .ref (ad 59)), (6, .int x6)]) hx hb dX8_aim_109 hl (by decide) rfl (fun ls hl => ?_)
                  refine lv_iload hx hb dX8_aim_111 (lv_at hl 8 rfl) ?_
                  refine lv_iconst (v := 2) hx hb dX8_aim_113 (by decide) ?_
                  refine lv_idiv hx hb dX8_aim_114 (by decide) ?_
                  refine lv_istore (lv' := [(6, .int (x6 / 2)), (5, .int r16.1), (4, .int (x4 + x6)), (8, .int r16.1), (7, .int (x4 + x6)), (0, .ref (ad 0)), (1, .int x1), (2, .int x2), (3, .ref (ad 59))]) hx hb dX8_aim_115 hl (by decide) rfl (fun ls hl => ?_)
                  refine lv_goto (tgt := 39) hx hb dX8_aim_117 (by decide) ?_
                  exact ih S14 r16.2 x1 x2 (x4 + x6) r16.1 (x6 / 2) _ _ _ r h hW (lv_sub hl [5, 6, 7, 8, 2, 1, 0] rfl) kk
        obtain ⟨q8, hq9, h⟩ := bd_of h
        refine hL39 n r6.1 r6.2 p0 p1 0 1000000 64  _ _ _ q8 hq9 hW (lv_sub hl [4, 5, 6, 3, 2, 1, 0] rfl) (fun H locs ls hW hl => ?_)
        refine lv_aload_n hx hb dX8_aim_120 rfl (lv_at hl 0 rfl) ?_
        refine wd_get hC i8 hW 0 wC_c0 rfl 8 (Nat.le_of_ble_eq_true rfl) f61 rfl rfl dX8_aim_121 ?_
        refine lv_iconst (v := 0) hx hb dX8_aim_124 (by decide) ?_
        refine lv_iload hx hb dX8_aim_125 (lv_at hl 5 rfl) ?_
        refine lv_i2l (v := q8.2.2.2.toInt64) hx hb dX8_aim_127 rfl ?_
        obtain ⟨hi19, h⟩ := ck_of h
        refine wd_last hC hW 58 wC_c58 hi19 wC_t58 dX8_aim_128 (fun H locs hW => ?_)
        obtain ⟨S20, e21, h⟩ := nm_of h
        replace hW := wq_S e21 hW
        refine lv_aload_n hx hb dX8_aim_129 rfl (lv_at hl 0 rfl) ?_
        refine lv_iconst (v := 1) hx hb dX8_aim_130 (by decide) ?_
        refine wd_put hC i8 tyX8_ok nmX8 hW 0 wC_c0 rfl 9 (Nat.le_of_ble_eq_true rfl) f65 rfl rfl rfl rfl (Nat.le_of_ble_eq_true rfl) wC_s0_9 dX8_aim_131 (fun H locs hW => ?_)
        obtain ⟨S22, e23, h⟩ := nm_of h
        replace hW := wq_S e23 hW
        refine lv_iload hx hb dX8_aim_134 (lv_at hl 4 rfl) ?_
        obtain rfl := Option.some.inj h
        exact wd_iret hA hQ hC hr hk hW dX8_aim_136
      · replace h := ite_f h c5
        refine lv_iconst (v := (-1)) hx hb dX8_aim_19 (by decide) ?_
        obtain rfl := Option.some.inj h
        exact wd_iret hA hQ hC hr hk hW dX8_aim_20
def m_X8_against (n : Nat) (S : St) (F : St) (p0 : Int32) (p1 : Int32) : Option (Int32 × St × St) :=
  (m_X8_isLifter S p0).bind (fun r1 => if r1 = 0 then (some ((-1), S, F)) else ((m_X8_isLifter S p1).bind (fun r4 => if r4 = 0 then (some ((-1), S, F)) else (if p0 = p1 then (some ((-1), S, F)) else ((m_X8_aimToBeat n S p0 p1).bind (fun r8 => (m_X8_byChoice n r8 F p0).bind (fun r10 => some (r10.1, r10.2.1, r10.2.2))))))))
set_option maxHeartbeats 4000000 in
set_option maxRecDepth 100000 in
theorem c_X8_against (l : Launch) (D : va_G) (cy : Nat → ClassId) (ad : Nat → Nat) (X : va_W) (n : Nat) (S : St) (F : St) (p0 : Int32) (p1 : Int32) (r : (Int32 × St × St)) (h : m_X8_against n S F p0 p1 = some r) : CT l yX8_against (wu yX8_against cX8_against 3 (some .int)) 45 D cy [.ref (ad 0), .int p0, .int p1] (wC ad cy S ++ (wF ad cy F ++ X)) (some (.int r.1)) (wC ad cy r.2.1 ++ (wF ad cy r.2.2 ++ X)) := by
  refine CT.mk (cc := cX8_against) (maxL := 3) (ret := (some .int)) (own := RX8) (by decide) rfl rfl (Nat.le_of_ble_eq_true rfl) ?_
  intro p e s m args below meth c ls A Q hA hQ hC hr hk hW hl
  have hx := hC.1
  have hb := hC.2.1
  have hown := hC.2.2.2.1
  have hts := hC.2.2.2.2
  have hl : lv_has ls 3 [(0, .ref (ad 0)), (1, .int p0), (2, .int p1)] := hl
  unfold m_X8_against at h
  refine lv_aload_n hx hb dX8_against_0 rfl (lv_at hl 0 rfl) ?_
  refine lv_iload_n hx hb dX8_against_1 rfl (lv_at hl 1 rfl) ?_
  obtain ⟨r1, hr2, h⟩ := bd_of h
  refine wd_callV1 (As := [.int p0]) hC hW 0 wC_c0 rfl (c_X8_isLifter l D cy ad (wF ad cy F ++ X) S p0 r1 hr2) (cwV 1 hts (gu_V w_13_9 w_13_6 w_13_7 w_13_8 w_1_2) rfl rfl rfl hdX8_isLifter ⟨Nat.le_of_ble_eq_true rfl, Nat.le_of_ble_eq_true rfl⟩) rfl hl.1 rfl (Nat.le_of_ble_eq_true rfl) ⟨Nat.zero_le _, Nat.zero_le _⟩ dX8_against_2 (fun H locs hW => ?_)
  refine lv_if_eq (tgt := 21) hx hb dX8_against_5 (by decide) (fun c3 => ?_) (fun c3 => ?_)
  · replace h := ite_t h c3
    refine lv_iconst (v := (-1)) hx hb dX8_against_21 (by decide) ?_
    obtain rfl := Option.some.inj h
    exact wd_iret hA hQ hC hr hk hW dX8_against_22
  · replace h := ite_f h c3
    refine lv_aload_n hx hb dX8_against_8 rfl (lv_at hl 0 rfl) ?_
    refine lv_iload_n hx hb dX8_against_9 rfl (lv_at hl 2 rfl) ?_
    obtain ⟨r4, hr5, h⟩ := bd_of h
    refine wd_callV1 (As := [.int p1]) hC hW 0 wC_c0 rfl (c_X8_isLifter l D cy ad (wF ad cy F ++ X) S p1 r4 hr5) (cwV 1 hts (gu_V w_13_9 w_13_6 w_13_7 w_13_8 w_1_2) rfl rfl rfl hdX8_isLifter ⟨Nat.le_of_ble_eq_true rfl, Nat.le_of_ble_eq_true rfl⟩) rfl hl.1 rfl (Nat.le_of_ble_eq_true rfl) ⟨Nat.zero_le _, Nat.zero_le _⟩ dX8_against_10 (fun H locs hW => ?_)
    refine lv_if_eq (tgt := 21) hx hb dX8_against_13 (by decide) (fun c6 => ?_) (fun c6 => ?_)
    · replace h := ite_t h c6
      refine lv_iconst (v := (-1)) hx hb dX8_against_21 (by decide) ?_
      obtain rfl := Option.some.inj h
      exact wd_iret hA hQ hC hr hk hW dX8_against_22
    · replace h := ite_f h c6
      refine lv_iload_n hx hb dX8_against_16 rfl (lv_at hl 1 rfl) ?_
      refine lv_iload_n hx hb dX8_against_17 rfl (lv_at hl 2 rfl) ?_
      refine lv_icmp_ne (tgt := 23) hx hb dX8_against_18 (by decide) (fun c7 => ?_) (fun c7 => ?_)
      · replace h := ite_f h c7
        refine lv_aload_n hx hb dX8_against_23 rfl (lv_at hl 0 rfl) ?_
        refine lv_iload_n hx hb dX8_against_24 rfl (lv_at hl 1 rfl) ?_
        refine lv_iload_n hx hb dX8_against_25 rfl (lv_at hl 2 rfl) ?_
        obtain ⟨r8, hr9, h⟩ := bd_of h
        refine wd_callV0 (As := [.int p0, .int p1]) hC hW 0 wC_c0 rfl (c_X8_aimToBeat l D cy ad (wF ad cy F ++ X) n S p0 p1 r8 hr9) (cwV 2 hts (gu_V w_31_19 w_31_16 w_31_17 w_31_18 w_1_2) rfl rfl rfl hdX8_aimToBeat ⟨Nat.le_of_ble_eq_true rfl, Nat.le_of_ble_eq_true rfl⟩) rfl hl.1 rfl (Nat.le_of_ble_eq_true rfl) ⟨Nat.zero_le _, Nat.zero_le _⟩ dX8_against_26 (fun H locs hW => ?_)
        refine lv_aload_n hx hb dX8_against_29 rfl (lv_at hl 0 rfl) ?_
        refine lv_iload_n hx hb dX8_against_30 rfl (lv_at hl 1 rfl) ?_
        obtain ⟨r10, hr11, h⟩ := bd_of h
        refine wd_callV1 (As := [.int p0]) hC hW 0 wC_c0 rfl (c_X8_byChoice l D cy ad X n r8 F p0 r10 hr11) (cwV 1 hts (gu_V w_34_22 w_34_19 w_34_20 w_34_21 w_1_2) rfl rfl rfl hdX8_byChoice ⟨Nat.le_of_ble_eq_true rfl, Nat.le_of_ble_eq_true rfl⟩) rfl hl.1 rfl (Nat.le_of_ble_eq_true rfl) ⟨Nat.zero_le _, Nat.zero_le _⟩ dX8_against_31 (fun H locs hW => ?_)
        obtain rfl := Option.some.inj h
        exact wd_iret hA hQ hC hr hk hW dX8_against_34
      · replace h := ite_t h c7
        refine lv_iconst (v := (-1)) hx hb dX8_against_21 (by decide) ?_
        obtain rfl := Option.some.inj h
        exact wd_iret hA hQ hC hr hk hW dX8_against_22
def m_X8_gold (n : Nat) (S : St) (F : St) (p0 : Int32) : Option (Int32 × St × St) :=
  (m_X8_isLifter S p0).bind (fun r1 => if r1 = 0 then (some ((-1), S, F)) else ((m_X8_aimToWin n S p0).bind (fun r4 => (m_X8_byChoice n r4 F p0).bind (fun r6 => some (r6.1, r6.2.1, r6.2.2)))))
set_option maxHeartbeats 4000000 in
set_option maxRecDepth 100000 in
theorem c_X8_gold (l : Launch) (D : va_G) (cy : Nat → ClassId) (ad : Nat → Nat) (X : va_W) (n : Nat) (S : St) (F : St) (p0 : Int32) (r : (Int32 × St × St)) (h : m_X8_gold n S F p0 = some r) : CT l yX8_gold (wu yX8_gold cX8_gold 2 (some .int)) 45 D cy [.ref (ad 0), .int p0] (wC ad cy S ++ (wF ad cy F ++ X)) (some (.int r.1)) (wC ad cy r.2.1 ++ (wF ad cy r.2.2 ++ X)) := by
  refine CT.mk (cc := cX8_gold) (maxL := 2) (ret := (some .int)) (own := RX8) (by decide) rfl rfl (Nat.le_of_ble_eq_true rfl) ?_
  intro p e s m args below meth c ls A Q hA hQ hC hr hk hW hl
  have hx := hC.1
  have hb := hC.2.1
  have hown := hC.2.2.2.1
  have hts := hC.2.2.2.2
  have hl : lv_has ls 2 [(0, .ref (ad 0)), (1, .int p0)] := hl
  unfold m_X8_gold at h
  refine lv_aload_n hx hb dX8_gold_0 rfl (lv_at hl 0 rfl) ?_
  refine lv_iload_n hx hb dX8_gold_1 rfl (lv_at hl 1 rfl) ?_
  obtain ⟨r1, hr2, h⟩ := bd_of h
  refine wd_callV1 (As := [.int p0]) hC hW 0 wC_c0 rfl (c_X8_isLifter l D cy ad (wF ad cy F ++ X) S p0 r1 hr2) (cwV 1 hts (gu_V w_13_9 w_13_6 w_13_7 w_13_8 w_1_2) rfl rfl rfl hdX8_isLifter ⟨Nat.le_of_ble_eq_true rfl, Nat.le_of_ble_eq_true rfl⟩) rfl hl.1 rfl (Nat.le_of_ble_eq_true rfl) ⟨Nat.zero_le _, Nat.zero_le _⟩ dX8_gold_2 (fun H locs hW => ?_)
  refine lv_if_ne (tgt := 10) hx hb dX8_gold_5 (by decide) (fun c3 => ?_) (fun c3 => ?_)
  · replace h := ite_f h c3
    refine lv_aload_n hx hb dX8_gold_10 rfl (lv_at hl 0 rfl) ?_
    refine lv_iload_n hx hb dX8_gold_11 rfl (lv_at hl 1 rfl) ?_
    obtain ⟨r4, hr5, h⟩ := bd_of h
    refine wd_callV0 (As := [.int p0]) hC hW 0 wC_c0 rfl (c_X8_aimToWin l D cy ad (wF ad cy F ++ X) n S p0 r4 hr5) (cwV 1 hts (gu_V w_41_17 w_41_14 w_41_15 w_41_16 w_1_2) rfl rfl rfl hdX8_aimToWin ⟨Nat.le_of_ble_eq_true rfl, Nat.le_of_ble_eq_true rfl⟩) rfl hl.1 rfl (Nat.le_of_ble_eq_true rfl) ⟨Nat.zero_le _, Nat.zero_le _⟩ dX8_gold_12 (fun H locs hW => ?_)
    refine lv_aload_n hx hb dX8_gold_15 rfl (lv_at hl 0 rfl) ?_
    refine lv_iload_n hx hb dX8_gold_16 rfl (lv_at hl 1 rfl) ?_
    obtain ⟨r6, hr7, h⟩ := bd_of h
    refine wd_callV1 (As := [.int p0]) hC hW 0 wC_c0 rfl (c_X8_byChoice l D cy ad X n r4 F p0 r6 hr7) (cwV 1 hts (gu_V w_34_22 w_34_19 w_34_20 w_34_21 w_1_2) rfl rfl rfl hdX8_byChoice ⟨Nat.le_of_ble_eq_true rfl, Nat.le_of_ble_eq_true rfl⟩) rfl hl.1 rfl (Nat.le_of_ble_eq_true rfl) ⟨Nat.zero_le _, Nat.zero_le _⟩ dX8_gold_17 (fun H locs hW => ?_)
    obtain rfl := Option.some.inj h
    exact wd_iret hA hQ hC hr hk hW dX8_gold_20
  · replace h := ite_t h c3
    refine lv_iconst (v := (-1)) hx hb dX8_gold_8 (by decide) ?_
    obtain rfl := Option.some.inj h
    exact wd_iret hA hQ hC hr hk hW dX8_gold_9
def m_X8_line_L66 : Nat → St → St → Int32 → Int32 → Option (St × St)
  | 0, _, _, _, _ => none
  | n + 1, S, F, x3, x5 =>
    if 9 ≤ x5 then (some (S, F)) else ((m_X5_findTry n S).bind (fun r18 => if r18.1 = 0 then (some (r18.2, F)) else ((m_X2_valueFrom n r18.2 F).bind (fun r21 => ck x5 9 (nm (sJ r18.2 58 x5.toNatClampNeg ((r21.2.1 62).toInt64)) (fun S24 => nm (sI S24 0 ((S24.1 0) + 1)) (fun S26 => (m_X5_take S26 (r21.2.1 62) x3).bind (fun r28 => m_X8_line_L66 n r28 r21.2 x3 (x5 + 1)))))))))
theorem m_X8_line_L66_0 (S : St) (F : St) (x3 : Int32) (x5 : Int32) : m_X8_line_L66 0 S F x3 x5 = none := rfl
theorem m_X8_line_L66_s {n : Nat} {S : St} {F : St} {x3 : Int32} {x5 : Int32} : m_X8_line_L66 (n + 1) S F x3 x5 =
    (if 9 ≤ x5 then (some (S, F)) else ((m_X5_findTry n S).bind (fun r18 => if r18.1 = 0 then (some (r18.2, F)) else ((m_X2_valueFrom n r18.2 F).bind (fun r21 => ck x5 9 (nm (sJ r18.2 58 x5.toNatClampNeg ((r21.2.1 62).toInt64)) (fun S24 => nm (sI S24 0 ((S24.1 0) + 1)) (fun S26 => (m_X5_take S26 (r21.2.1 62) x3).bind (fun r28 => m_X8_line_L66 n r28 r21.2 x3 (x5 + 1)))))))))) := rfl
def m_X8_line (n : Nat) (S : St) (F : St) (p0 : Int32) (p1 : Int32) (p2 : Int32) : Option (Int32 × St × St) :=
  (m_X8_isLifter S p0).bind (fun r1 => if r1 = 0 then (some ((-1), S, F)) else (if p1 < 0 then (some ((-1), S, F)) else (if p1 ≤ 1 then (((if p1 = 0 then ((m_X0_beMass n S).bind (fun r32 => some r32)) else ((m_X8_aimToWin n S p0).bind (fun r30 => some r30)) : Option (St))).bind (fun q7 => (m_X8_thinkFreely n q7 F p0 0).bind (fun r9 => (m_X5_look r9.1 p0).bind (fun r11 => nm (sI r11 0 0) (fun S13 => (m_X8_line_L66 n S13 r9.2 p2 0).bind (fun q15 => some (q15.1.1 0, q15.1, q15.2))))))) else (some ((-1), S, F)))))
set_option maxHeartbeats 4000000 in
set_option maxRecDepth 100000 in
theorem c_X8_line (l : Launch) (D : va_G) (cy : Nat → ClassId) (ad : Nat → Nat) (X : va_W) (n : Nat) (S : St) (F : St) (p0 : Int32) (p1 : Int32) (p2 : Int32) (r : (Int32 × St × St)) (h : m_X8_line n S F p0 p1 p2 = some r) : CT l yX8_line (wu yX8_line cX8_line 6 (some .int)) 45 D cy [.ref (ad 0), .int p0, .int p1, .int p2] (wC ad cy S ++ (wF ad cy F ++ X)) (some (.int r.1)) (wC ad cy r.2.1 ++ (wF ad cy r.2.2 ++ X)) := by
  refine CT.mk (cc := cX8_line) (maxL := 6) (ret := (some .int)) (own := RX8) (by decide) rfl rfl (Nat.le_of_ble_eq_true rfl) ?_
  intro p e s m args below meth c ls A Q hA hQ hC hr hk hW hl
  have hx := hC.1
  have hb := hC.2.1
  have hown := hC.2.2.2.1
  have hts := hC.2.2.2.2
  have hl : lv_has ls 6 [(0, .ref (ad 0)), (1, .int p0), (2, .int p1), (3, .int p2)] := hl
  have f38 := hts _ (wu_in w_2_5)
  have i8 := (fun w h => wu_in (inc_8 w h) : ∀ w ∈ u_ws RX8 TX8 12, w ∈ (wu yX8_line cX8_line 6 (some .int)))
  have f28 := hts _ (wu_in w_2_0)
  have f65 := hts _ (wu_in w_2_18)
  have f61 := hts _ (wu_in w_2_17)
  have f245 := hts _ (wu_in w_34_23)
  have i2 := (fun w h => wu_in (inc_2 w h) : ∀ w ∈ u_ws RX2 TX2 12, w ∈ (wu yX8_line cX8_line 6 (some .int)))
  have f45 := hts _ (wu_in w_2_9)
  unfold m_X8_line at h
  refine lv_aload_n hx hb dX8_line_0 rfl (lv_at hl 0 rfl) ?_
  refine lv_iload_n hx hb dX8_line_1 rfl (lv_at hl 1 rfl) ?_
  obtain ⟨r1, hr2, h⟩ := bd_of h
  refine wd_callV1 (As := [.int p0]) hC hW 0 wC_c0 rfl (c_X8_isLifter l D cy ad (wF ad cy F ++ X) S p0 r1 hr2) (cwV 1 hts (gu_V w_13_9 w_13_6 w_13_7 w_13_8 w_1_2) rfl rfl rfl hdX8_isLifter ⟨Nat.le_of_ble_eq_true rfl, Nat.le_of_ble_eq_true rfl⟩) rfl hl.1 rfl (Nat.le_of_ble_eq_true rfl) ⟨Nat.zero_le _, Nat.zero_le _⟩ dX8_line_2 (fun H locs hW => ?_)
  refine lv_if_eq (tgt := 17) hx hb dX8_line_5 (by decide) (fun c3 => ?_) (fun c3 => ?_)
  · replace h := ite_t h c3
    refine lv_iconst (v := (-1)) hx hb dX8_line_17 (by decide) ?_
    obtain rfl := Option.some.inj h
    exact wd_iret hA hQ hC hr hk hW dX8_line_18
  · replace h := ite_f h c3
    refine lv_iload_n hx hb dX8_line_8 rfl (lv_at hl 2 rfl) ?_
    refine lv_if_lt (tgt := 17) hx hb dX8_line_9 (by decide) (fun c4 => ?_) (fun c4 => ?_)
    · replace h := ite_t h c4
      refine lv_iconst (v := (-1)) hx hb dX8_line_17 (by decide) ?_
      obtain rfl := Option.some.inj h
      exact wd_iret hA hQ hC hr hk hW dX8_line_18
    · replace h := ite_f h c4
      refine lv_iload_n hx hb dX8_line_12 rfl (lv_at hl 2 rfl) ?_
      refine lv_iconst (v := 1) hx hb dX8_line_13 (by decide) ?_
      refine lv_icmp_le (tgt := 19) hx hb dX8_line_14 (by decide) (fun c5 => ?_) (fun c5 => ?_)
      · replace h := ite_t h c5
        refine lv_iload_n hx hb dX8_line_19 rfl (lv_at hl 2 rfl) ?_
        obtain ⟨q7, hq8, h⟩ := bd_of h
        have hJ38 : ∀ (H : Heap) (locs : List Loc) (ls : Array Slot), Wd D cy A s (wC ad cy q7 ++ (wF ad cy F ++ X)) H locs → lv_has ls 6 [(0, .ref (ad 0)), (1, .int p0), (2, .int p1), (3, .int p2)] → W p l e (RM 45) s m args below meth c H locs 0 0 Q (F0 m 38 ls []) := by
          intro H locs ls hW hl
          refine lv_aload_n hx hb dX8_line_38 rfl (lv_at hl 0 rfl) ?_
          refine lv_iload_n hx hb dX8_line_39 rfl (lv_at hl 1 rfl) ?_
          refine lv_iconst (v := 0) hx hb dX8_line_40 (by decide) ?_
          obtain ⟨r9, hr10, h⟩ := bd_of h
          refine wd_callV1 (As := [.int p0, .int 0]) hC hW 0 wC_c0 rfl (c_X8_thinkFreely l D cy ad X n q7 F p0 0 r9 hr10) (cwV 2 hts (gu_V w_35_3 w_35_0 w_35_1 w_35_2 w_1_2) rfl rfl rfl hdX8_thinkFreely ⟨Nat.le_of_ble_eq_true rfl, Nat.le_of_ble_eq_true rfl⟩) rfl hl.1 rfl (Nat.le_of_ble_eq_true rfl) ⟨Nat.zero_le _, Nat.zero_le _⟩ dX8_line_41 (fun H locs hW => ?_)
          refine lv_astore (lv' := [(4, .ref (ad 59)), (0, .ref (ad 0)), (1, .int p0), (2, .int p1), (3, .int p2)]) hx hb dX8_line_44 hl (by decide) rfl (fun ls hl => ?_)
          refine lv_aload_n hx hb dX8_line_46 rfl (lv_at hl 1 rfl) ?_
          refine wd_get hC i8 hW 0 wC_c0 rfl 4 (Nat.le_of_ble_eq_true rfl) f38 rfl rfl dX8_line_47 ?_
          refine lv_aload_n hx hb dX8_line_50 rfl (lv_at hl 1 rfl) ?_
          refine wd_get hC i8 hW 0 wC_c0 rfl 2 (Nat.le_of_ble_eq_true rfl) f28 rfl rfl dX8_line_51 ?_
          refine lv_iload_n hx hb dX8_line_54 rfl (lv_at hl 2 rfl) ?_
          obtain ⟨r11, hr12, h⟩ := bd_of h
          refine wd_callV0 (As := [.ref (ad 25), .int p0]) hC hW 43 wC_c43 rfl (c_X5_look l D cy ad (wF ad cy r9.2 ++ X) r9.1 p0 r11 hr12) (cwV 2 hts (gu_V w_26_4 w_26_1 w_26_2 w_26_3 w_2_4) rfl rfl rfl hdX5_look ⟨Nat.le_of_ble_eq_true rfl, Nat.le_of_ble_eq_true rfl⟩) rfl hl.1 rfl (Nat.le_of_ble_eq_true rfl) ⟨Nat.zero_le _, Nat.zero_le _⟩ dX8_line_55 (fun H locs hW => ?_)
          refine lv_aload_n hx hb dX8_line_58 rfl (lv_at hl 1 rfl) ?_
          refine lv_iconst (v := 0) hx hb dX8_line_59 (by decide) ?_
          refine wd_put hC i8 tyX8_ok nmX8 hW 0 wC_c0 rfl 9 (Nat.le_of_ble_eq_true rfl) f65 rfl rfl rfl rfl (Nat.le_of_ble_eq_true rfl) wC_s0_9 dX8_line_60 (fun H locs hW => ?_)
          obtain ⟨S13, e14, h⟩ := nm_of h
          replace hW := wq_S e14 hW
          refine lv_iconst (v := 0) hx hb dX8_line_63 (by decide) ?_
          refine lv_istore (lv' := [(5, .int 0), (4, .ref (ad 59)), (0, .ref (ad 0)), (1, .int p0), (2, .int p1), (3, .int p2)]) hx hb dX8_line_64 hl (by decide) rfl (fun ls hl => ?_)
          have hL66 : ∀ (n : Nat) (S : St) (F : St) (x3 : Int32) (x5 : Int32)  (H : Heap) (locs : List Loc) (ls : Array Slot) (r : (St × St)), m_X8_line_L66 n S F x3 x5 = some r → Wd D cy A s (wC ad cy S ++ (wF ad cy F ++ X)) H locs → lv_has ls 6 [(0, .ref (ad 0)), (3, .int x3), (4, .ref (ad 59)), (5, .int x5)] → (∀ (H : Heap) (locs : List Loc) (ls : Array Slot), Wd D cy A s (wC ad cy r.1 ++ (wF ad cy r.2 ++ X)) H locs → lv_has ls 6 [(0, .ref (ad 0)), (3, .int x3), (4, .ref (ad 59))] → W p l e (RM 45) s m args below meth c H locs 0 0 Q (F0 m 138 ls [])) → W p l e (RM 45) s m args below meth c H locs 0 0 Q (F0 m 66 ls []) := by
            intro n
            induction n with
            | zero =>
              intro S F x3 x5  H locs ls r h
              exact absurd (h.symm.trans (m_X8_line_L66_0 ..)) (by simp)
            | succ n ih =>
              intro S F x3 x5  H locs ls r h hW hl kk
              rw [m_X8_line_L66_s] at h
              refine lv_iload hx hb dX8_line_66 (lv_at hl 3 rfl) ?_
              refine lv_aload_n hx hb dX8_line_68 rfl (lv_at hl 0 rfl) ?_
              refine wd_get hC i8 hW 0 wC_c0 rfl 8 (Nat.le_of_ble_eq_true rfl) f61 rfl rfl dX8_line_69 ?_
              refine wd_alen hC hW 58 1 wC_c58 rfl (v := 9) rfl dX8_line_72 ?_
              refine lv_icmp_ge (tgt := 138) hx hb dX8_line_73 (by decide) (fun c17 => ?_) (fun c17 => ?_)
              · replace h := ite_t h c17
                obtain rfl := Option.some.inj h
                exact kk _ _ _ hW (lv_sub hl [0, 1, 2] rfl)
              · replace h := ite_f h c17
                refine lv_aload_n hx hb dX8_line_76 rfl (lv_at hl 0 rfl) ?_
                refine wd_get hC i8 hW 0 wC_c0 rfl 4 (Nat.le_of_ble_eq_true rfl) f38 rfl rfl dX8_line_77 ?_
                obtain ⟨r18, hr19, h⟩ := bd_of h
                refine wd_callV1 (As := []) hC hW 43 wC_c43 rfl (c_X5_findTry l D cy ad (wF ad cy F ++ X) n S r18 hr19) (cwV 0 hts (gu_V w_36_14 w_36_11 w_36_12 w_36_13 w_2_4) rfl rfl rfl hdX5_findTry ⟨Nat.le_of_ble_eq_true rfl, Nat.le_of_ble_eq_true rfl⟩) rfl hl.1 rfl (Nat.le_of_ble_eq_true rfl) ⟨Nat.zero_le _, Nat.zero_le _⟩ dX8_line_80 (fun H locs hW => ?_)
                refine lv_if_eq (tgt := 138) hx hb dX8_line_83 (by decide) (fun c20 => ?_) (fun c20 => ?_)
                · replace h := ite_t h c20
                  obtain rfl := Option.some.inj h
                  exact kk _ _ _ hW (lv_sub hl [0, 1, 2] rfl)
                · replace h := ite_f h c20
                  refine lv_aload hx hb dX8_line_86 (lv_at hl 2 rfl) ?_
                  refine lv_aload_n hx hb dX8_line_88 rfl (lv_at hl 0 rfl) ?_
                  refine wd_get hC i8 hW 0 wC_c0 rfl 4 (Nat.le_of_ble_eq_true rfl) f38 rfl rfl dX8_line_89 ?_
                  obtain ⟨r21, hr22, h⟩ := bd_of h
                  refine wd_callV1 (As := [.ref (ad 43)]) hC hW 59 wF_c59 rfl (c_X2_valueFrom l D cy ad X n r18.2 F r21 hr22) (cwV 1 hts (gu_V w_36_22 w_36_19 w_36_20 w_36_21 w_35_6) rfl rfl rfl hdX2_valueFrom ⟨Nat.le_of_ble_eq_true rfl, Nat.le_of_ble_eq_true rfl⟩) rfl hl.1 rfl (Nat.le_of_ble_eq_true rfl) ⟨Nat.zero_le _, Nat.zero_le _⟩ dX8_line_92 (fun H locs hW => ?_)
                  refine lv_pop hx hb dX8_line_95 rfl ?_
                  refine lv_aload_n hx hb dX8_line_96 rfl (lv_at hl 0 rfl) ?_
                  refine wd_get hC i8 hW 0 wC_c0 rfl 8 (Nat.le_of_ble_eq_true rfl) f61 rfl rfl dX8_line_97 ?_
                  refine lv_iload hx hb dX8_line_100 (lv_at hl 3 rfl) ?_
                  refine lv_aload hx hb dX8_line_102 (lv_at hl 2 rfl) ?_
                  refine wd_get hC i2 hW 59 wF_c59 rfl 0 (Nat.le_of_ble_eq_true rfl) f245 rfl rfl dX8_line_104 ?_
                  refine lv_i2l (v := (r21.2.1 62).toInt64) hx hb dX8_line_107 rfl ?_
                  obtain ⟨hi23, h⟩ := ck_of h
                  refine wd_last hC hW 58 wC_c58 hi23 wC_t58 dX8_line_108 (fun H locs hW => ?_)
                  obtain ⟨S24, e25, h⟩ := nm_of h
                  replace hW := wq_S e25 hW
                  refine lv_aload_n hx hb dX8_line_109 rfl (lv_at hl 0 rfl) ?_
                  refine lv_dup hx hb dX8_line_110 rfl ?_
                  refine wd_get hC i8 hW 0 wC_c0 rfl 9 (Nat.le_of_ble_eq_true rfl) f65 rfl rfl dX8_line_111 ?_
                  refine lv_iconst (v := 1) hx hb dX8_line_114 (by decide) ?_
                  refine lv_iadd hx hb dX8_line_115 ?_
                  refine wd_put hC i8 tyX8_ok nmX8 hW 0 wC_c0 rfl 9 (Nat.le_of_ble_eq_true rfl) f65 rfl rfl rfl rfl (Nat.le_of_ble_eq_true rfl) wC_s0_9 dX8_line_116 (fun H locs hW => ?_)
                  obtain ⟨S26, e27, h⟩ := nm_of h
                  replace hW := wq_S e27 hW
                  refine lv_aload_n hx hb dX8_line_119 rfl (lv_at hl 0 rfl) ?_
                  refine wd_get hC i8 hW 0 wC_c0 rfl 4 (Nat.le_of_ble_eq_true rfl) f38 rfl rfl dX8_line_120 ?_
                  refine lv_aload hx hb dX8_line_123 (lv_at hl 2 rfl) ?_
                  refine wd_get hC i2 hW 59 wF_c59 rfl 0 (Nat.le_of_ble_eq_true rfl) f245 rfl rfl dX8_line_125 ?_
                  refine lv_iload_n hx hb dX8_line_128 rfl (lv_at hl 1 rfl) ?_
                  obtain ⟨r28, hr29, h⟩ := bd_of h
                  refine wd_callV0 (As := [.int (r21.2.1 62), .int x3]) hC hW 43 wC_c43 rfl (c_X5_take l D cy ad (wF ad cy r21.2 ++ X) S26 (r21.2.1 62) x3 r28 hr29) (cwV 2 hts (gu_V w_42_5 w_42_2 w_42_3 w_42_4 w_2_4) rfl rfl rfl hdX5_take ⟨Nat.le_of_ble_eq_true rfl, Nat.le_of_ble_eq_true rfl⟩) rfl hl.1 rfl (Nat.le_of_ble_eq_true rfl) ⟨Nat.zero_le _, Nat.zero_le _⟩ dX8_line_129 (fun H locs hW => ?_)
                  refine lv_iinc (v := x5 + 1) (lv' := [(5, .int (x5 + 1)), (0, .ref (ad 0)), (3, .int x3), (4, .ref (ad 59))]) hx hb dX8_line_132 hl (k := 3) rfl rfl (by decide) rfl (fun ls hl => ?_)
                  refine lv_goto (tgt := 66) hx hb dX8_line_135 (by decide) ?_
                  exact ih r28 r21.2 x3 (x5 + 1) _ _ _ r h hW (lv_sub hl [1, 2, 3, 0] rfl) kk
          obtain ⟨q15, hq16, h⟩ := bd_of h
          refine hL66 n S13 r9.2 p2 0  _ _ _ q15 hq16 hW (lv_sub hl [2, 5, 1, 0] rfl) (fun H locs ls hW hl => ?_)
          refine lv_aload_n hx hb dX8_line_138 rfl (lv_at hl 0 rfl) ?_
          refine wd_get hC i8 hW 0 wC_c0 rfl 9 (Nat.le_of_ble_eq_true rfl) f65 rfl rfl dX8_line_139 ?_
          obtain rfl := Option.some.inj h
          exact wd_iret hA hQ hC hr hk hW dX8_line_142
        replace h := hq8
        refine lv_if_ne (tgt := 33) hx hb dX8_line_20 (by decide) (fun c6 => ?_) (fun c6 => ?_)
        · replace h := ite_f h c6
          refine lv_aload_n hx hb dX8_line_33 rfl (lv_at hl 0 rfl) ?_
          refine lv_iload_n hx hb dX8_line_34 rfl (lv_at hl 1 rfl) ?_
          obtain ⟨r30, hr31, h⟩ := bd_of h
          refine wd_callV0 (As := [.int p0]) hC hW 0 wC_c0 rfl (c_X8_aimToWin l D cy ad (wF ad cy F ++ X) n S p0 r30 hr31) (cwV 1 hts (gu_V w_41_17 w_41_14 w_41_15 w_41_16 w_1_2) rfl rfl rfl hdX8_aimToWin ⟨Nat.le_of_ble_eq_true rfl, Nat.le_of_ble_eq_true rfl⟩) rfl hl.1 rfl (Nat.le_of_ble_eq_true rfl) ⟨Nat.zero_le _, Nat.zero_le _⟩ dX8_line_35 (fun H locs hW => ?_)
          obtain rfl := Option.some.inj h
          exact hJ38 _ _ _ hW (lv_sub hl [0, 1, 2, 3] rfl)
        · replace h := ite_t h c6
          refine lv_aload_n hx hb dX8_line_23 rfl (lv_at hl 0 rfl) ?_
          refine wd_get hC i8 hW 0 wC_c0 rfl 5 (Nat.le_of_ble_eq_true rfl) f45 rfl rfl dX8_line_24 ?_
          obtain ⟨r32, hr33, h⟩ := bd_of h
          refine wd_callV0 (As := []) hC hW 44 wC_c44 rfl (c_X0_beMass l D cy ad (wF ad cy F ++ X) n S r32 hr33) (cwV 0 hts (gu_V w_25_12 w_25_9 w_25_10 w_25_11 w_2_8) rfl rfl rfl hdX0_beMass ⟨Nat.le_of_ble_eq_true rfl, Nat.le_of_ble_eq_true rfl⟩) rfl hl.1 rfl (Nat.le_of_ble_eq_true rfl) ⟨Nat.zero_le _, Nat.zero_le _⟩ dX8_line_27 (fun H locs hW => ?_)
          refine lv_goto (tgt := 38) hx hb dX8_line_30 (by decide) ?_
          obtain rfl := Option.some.inj h
          exact hJ38 _ _ _ hW (lv_sub hl [0, 1, 2, 3] rfl)
      · replace h := ite_f h c5
        refine lv_iconst (v := (-1)) hx hb dX8_line_17 (by decide) ?_
        obtain rfl := Option.some.inj h
        exact wd_iret hA hQ hC hr hk hW dX8_line_18
