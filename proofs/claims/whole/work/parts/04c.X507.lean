theorem hdJ7_fill_53178 : yJ7_fill_53178.cls ≠ "java/lang/invoke/MethodHandle" ∧ yJ7_fill_53178.cls ≠ "java/lang/invoke/VarHandle" ∧ (parseMethodDescriptor yJ7_fill_53178.desc).map (fun d => d.parameters.length) = some 2 := by decide +kernel
theorem hdX0_beReach : yX0_beReach.cls = RX0 ∧ yX0_beReach.cls ≠ "java/lang/invoke/MethodHandle" ∧ yX0_beReach.cls ≠ "java/lang/invoke/VarHandle" ∧ (parseMethodDescriptor yX0_beReach.desc).map (fun d => d.parameters.length) = some 1 := by decide +kernel
theorem hdX3_clearTable : yX3_clearTable.cls = RX3 ∧ yX3_clearTable.cls ≠ "java/lang/invoke/MethodHandle" ∧ yX3_clearTable.cls ≠ "java/lang/invoke/VarHandle" ∧ (parseMethodDescriptor yX3_clearTable.desc).map (fun d => d.parameters.length) = some 1 := by decide +kernel
theorem hdX3_spread : yX3_spread.cls = RX3 ∧ yX3_spread.cls ≠ "java/lang/invoke/MethodHandle" ∧ yX3_spread.cls ≠ "java/lang/invoke/VarHandle" ∧ (parseMethodDescriptor yX3_spread.desc).map (fun d => d.parameters.length) = some 5 := by decide +kernel
theorem hdX4_leastOf : yX4_leastOf.cls = RX4 ∧ yX4_leastOf.cls ≠ "java/lang/invoke/MethodHandle" ∧ yX4_leastOf.cls ≠ "java/lang/invoke/VarHandle" ∧ (parseMethodDescriptor yX4_leastOf.desc).map (fun d => d.parameters.length) = some 1 := by decide +kernel
theorem hdX5_hasTry : yX5_hasTry.cls = RX5 ∧ yX5_hasTry.cls ≠ "java/lang/invoke/MethodHandle" ∧ yX5_hasTry.cls ≠ "java/lang/invoke/VarHandle" ∧ (parseMethodDescriptor yX5_hasTry.desc).map (fun d => d.parameters.length) = some 0 := by decide +kernel
theorem hdX7_isDigit : yX7_isDigit.cls ≠ "java/lang/invoke/MethodHandle" ∧ yX7_isDigit.cls ≠ "java/lang/invoke/VarHandle" ∧ (parseMethodDescriptor yX7_isDigit.desc).map (fun d => d.parameters.length) = some 1 := by decide +kernel
theorem hdX7_readNumber : yX7_readNumber.cls = RX7 ∧ yX7_readNumber.cls ≠ "java/lang/invoke/MethodHandle" ∧ yX7_readNumber.cls ≠ "java/lang/invoke/VarHandle" ∧ (parseMethodDescriptor yX7_readNumber.desc).map (fun d => d.parameters.length) = some 2 := by decide +kernel
theorem hdX7_readSign : yX7_readSign.cls = RX7 ∧ yX7_readSign.cls ≠ "java/lang/invoke/MethodHandle" ∧ yX7_readSign.cls ≠ "java/lang/invoke/VarHandle" ∧ (parseMethodDescriptor yX7_readSign.desc).map (fun d => d.parameters.length) = some 1 := by decide +kernel
theorem hdX7_readTable : yX7_readTable.cls = RX7 ∧ yX7_readTable.cls ≠ "java/lang/invoke/MethodHandle" ∧ yX7_readTable.cls ≠ "java/lang/invoke/VarHandle" ∧ (parseMethodDescriptor yX7_readTable.desc).map (fun d => d.parameters.length) = some 2 := by decide +kernel
def m_X5_look (S : St) (p1 : Int32) : Option (St) :=
  ck p1 6 (ckb (S.2.1 29 p1.toNatClampNeg) (nm (sI S 50 (S.2.1 29 p1.toNatClampNeg)) (fun S3 => nm (sI S3 51 (S3.1 32)) (fun S5 => ((if 3 ≤ (S5.1 51) then (some 0) else (ck ((p1 * 3) + (S5.1 51)) 18 (some (S5.2.1 30 ((p1 * 3) + (S5.1 51)).toNatClampNeg))) : Option (Int32))).bind (fun q8 => nm (sI S5 53 q8) (fun S10 => (m_X4_sumOf 30 25 S10 p1).bind (fun r12 => ((if (S10.1 50) = 0 then (some (S10.1 53)) else (some 0) : Option (Int32))).bind (fun q15 => nm (sI S10 52 (r12 - q15)) (fun S17 => ck p1 6 (nm (sI S17 54 (S17.2.1 31 p1.toNatClampNeg)) (fun S20 => ck p1 6 (nm (sI S20 55 (S20.2.1 26 p1.toNatClampNeg)) (fun S23 => (m_X4_leastOf 30 25 S23 p1).bind (fun r25 => nm (sI S23 56 r25) (fun S27 => if (S27.1 55) = 0 then (nm (sI S27 57 0) (fun S36 => some S36)) else (ck p1 6 (if (S27.2.1 27 p1.toNatClampNeg) = 0 then (nm (sI S27 57 ((3 - (S27.1 33)) - 0)) (fun S32 => some S32)) else (nm (sI S27 57 ((3 - (S27.1 33)) - 1)) (fun S34 => some S34)))))))))))))))))))
set_option maxHeartbeats 4000000 in
set_option maxRecDepth 100000 in
theorem c_X5_look (l : Launch) (D : va_G) (cy : Nat → ClassId) (ad : Nat → Nat) (X : va_W) (S : St) (p1 : Int32) (r : (St)) (h : m_X5_look S p1 = some r) : CT l yX5_look (wu yX5_look cX5_look 3 none) 2 D cy [.ref (ad 43), .ref (ad 25), .int p1] (wC ad cy S ++ X) (none) (wC ad cy r ++ X) := by
  refine CT.mk (cc := cX5_look) (maxL := 3) (ret := none) (own := RX5) (by decide) rfl rfl (Nat.le_of_ble_eq_true rfl) ?_
  intro p e s m args below meth c ls A Q hA hQ hC hr hk hW hl
  have hx := hC.1
  have hb := hC.2.1
  have hown := hC.2.2.2.1
  have hts := hC.2.2.2.2
  have hl : lv_has ls 3 [(0, .ref (ad 43)), (1, .ref (ad 25)), (2, .int p1)] := hl
  have f9 := hts _ (wu_in w_26_5)
  have i4 := (fun w h => wu_in (inc_4 w h) : ∀ w ∈ u_ws RX4 TX4 16, w ∈ (wu yX5_look cX5_look 3 none))
  have f15 := hts _ (wu_in w_26_6)
  have i5 := (fun w h => wu_in (inc_5 w h) : ∀ w ∈ u_ws RX5 TX5 8, w ∈ (wu yX5_look cX5_look 3 none))
  have f20 := hts _ (wu_in w_26_7)
  have f24 := hts _ (wu_in w_26_8)
  have f29 := hts _ (wu_in w_26_10)
  have f35 := hts _ (wu_in w_26_11)
  have f38 := hts _ (wu_in w_26_12)
  have f41 := hts _ (wu_in w_26_13)
  have f43 := hts _ (wu_in w_26_14)
  have f46 := hts _ (wu_in w_26_15)
  have f51 := hts _ (wu_in w_26_16)
  have f54 := hts _ (wu_in w_26_17)
  have f57 := hts _ (wu_in w_26_18)
  have f60 := hts _ (wu_in w_26_19)
  have f25 := hts _ (wu_in w_26_9)
  unfold m_X5_look at h
  refine lv_aload_n hx hb dX5_look_0 rfl (lv_at hl 0 rfl) ?_
  refine lv_aload_n hx hb dX5_look_1 rfl (lv_at hl 1 rfl) ?_
  refine wd_get hC i4 hW 25 wC_c25 rfl 9 (Nat.le_of_ble_eq_true rfl) f9 rfl rfl dX5_look_2 ?_
  refine lv_iload_n hx hb dX5_look_5 rfl (lv_at hl 2 rfl) ?_
  obtain ⟨hi1, h⟩ := ck_of h
  refine wd_zald hC hW 29 wC_c29 hi1 dX5_look_6 ?_
  obtain ⟨hb2, h⟩ := ckb_of h
  refine wd_put hC i5 tyX5_ok nmX5 hW 43 wC_c43 rfl 0 (Nat.le_of_ble_eq_true rfl) f15 rfl rfl (ckb_nar hb2) (ckb_fit hb2) (Nat.le_of_ble_eq_true rfl) wC_s43_0 dX5_look_7 (fun H locs hW => ?_)
  obtain ⟨S3, e4, h⟩ := nm_of h
  replace hW := wq_S e4 hW
  refine lv_aload_n hx hb dX5_look_10 rfl (lv_at hl 0 rfl) ?_
  refine lv_aload_n hx hb dX5_look_11 rfl (lv_at hl 1 rfl) ?_
  refine wd_get hC i4 hW 25 wC_c25 rfl 3 (Nat.le_of_ble_eq_true rfl) f20 rfl rfl dX5_look_12 ?_
  refine wd_put hC i5 tyX5_ok nmX5 hW 43 wC_c43 rfl 1 (Nat.le_of_ble_eq_true rfl) f24 rfl rfl rfl rfl (Nat.le_of_ble_eq_true rfl) wC_s43_1 dX5_look_15 (fun H locs hW => ?_)
  obtain ⟨S5, e6, h⟩ := nm_of h
  replace hW := wq_S e6 hW
  refine lv_aload_n hx hb dX5_look_18 rfl (lv_at hl 0 rfl) ?_
  refine lv_aload_n hx hb dX5_look_19 rfl (lv_at hl 0 rfl) ?_
  refine wd_get hC i5 hW 43 wC_c43 rfl 1 (Nat.le_of_ble_eq_true rfl) f24 rfl rfl dX5_look_20 ?_
  refine lv_iconst (v := 3) hx hb dX5_look_23 (by decide) ?_
  obtain ⟨q8, hq9, h⟩ := bd_of h
  have hJ44 : ∀ (H : Heap) (locs : List Loc) (ls : Array Slot), Wd D cy A s (wC ad cy S5 ++ X) H locs → lv_has ls 3 [(0, .ref (ad 43)), (1, .ref (ad 25)), (2, .int p1)] → W p l e (RM 2) s m args below meth c H locs 0 0 Q (F0 m 44 ls [.int q8, .ref (ad 43)]) := by
    intro H locs ls hW hl
    refine wd_put hC i5 tyX5_ok nmX5 hW 43 wC_c43 rfl 3 (Nat.le_of_ble_eq_true rfl) f29 rfl rfl rfl rfl (Nat.le_of_ble_eq_true rfl) wC_s43_3 dX5_look_44 (fun H locs hW => ?_)
    obtain ⟨S10, e11, h⟩ := nm_of h
    replace hW := wq_S e11 hW
    refine lv_aload_n hx hb dX5_look_47 rfl (lv_at hl 0 rfl) ?_
    refine lv_aload_n hx hb dX5_look_48 rfl (lv_at hl 1 rfl) ?_
    refine lv_iload_n hx hb dX5_look_49 rfl (lv_at hl 2 rfl) ?_
    obtain ⟨r12, hr13, h⟩ := bd_of h
    refine wd_callV1 (As := [.int p1]) hC hW 25 wC_c25 rfl (c_X4_sumOfM l D cy ad X S10 p1 r12 hr13) (cwV 1 hts (gu_V w_17_3 w_26_20 w_17_1 w_17_2 w_1_23) rfl rfl rfl hdX4_sumOf ⟨Nat.le_of_ble_eq_true rfl, Nat.le_of_ble_eq_true rfl⟩) rfl hl.1 rfl (Nat.le_of_ble_eq_true rfl) ⟨Nat.zero_le _, Nat.zero_le _⟩ dX5_look_50 (fun H locs hW => ?_)
    refine lv_aload_n hx hb dX5_look_53 rfl (lv_at hl 0 rfl) ?_
    refine wd_get hC i5 hW 43 wC_c43 rfl 0 (Nat.le_of_ble_eq_true rfl) f15 rfl rfl dX5_look_54 ?_
    obtain ⟨q15, hq16, h⟩ := bd_of h
    have hJ68 : ∀ (H : Heap) (locs : List Loc) (ls : Array Slot), Wd D cy A s (wC ad cy S10 ++ X) H locs → lv_has ls 3 [(0, .ref (ad 43)), (1, .ref (ad 25)), (2, .int p1)] → W p l e (RM 2) s m args below meth c H locs 0 0 Q (F0 m 68 ls [.int q15, .int r12, .ref (ad 43)]) := by
      intro H locs ls hW hl
      refine lv_isub hx hb dX5_look_68 ?_
      refine wd_put hC i5 tyX5_ok nmX5 hW 43 wC_c43 rfl 2 (Nat.le_of_ble_eq_true rfl) f35 rfl rfl rfl rfl (Nat.le_of_ble_eq_true rfl) wC_s43_2 dX5_look_69 (fun H locs hW => ?_)
      obtain ⟨S17, e18, h⟩ := nm_of h
      replace hW := wq_S e18 hW
      refine lv_aload_n hx hb dX5_look_72 rfl (lv_at hl 0 rfl) ?_
      refine lv_aload_n hx hb dX5_look_73 rfl (lv_at hl 1 rfl) ?_
      refine wd_get hC i4 hW 25 wC_c25 rfl 11 (Nat.le_of_ble_eq_true rfl) f38 rfl rfl dX5_look_74 ?_
      refine lv_iload_n hx hb dX5_look_77 rfl (lv_at hl 2 rfl) ?_
      obtain ⟨hi19, h⟩ := ck_of h
      refine wd_iald hC hW 31 wC_c31 hi19 dX5_look_78 ?_
      refine wd_put hC i5 tyX5_ok nmX5 hW 43 wC_c43 rfl 4 (Nat.le_of_ble_eq_true rfl) f41 rfl rfl rfl rfl (Nat.le_of_ble_eq_true rfl) wC_s43_4 dX5_look_79 (fun H locs hW => ?_)
      obtain ⟨S20, e21, h⟩ := nm_of h
      replace hW := wq_S e21 hW
      refine lv_aload_n hx hb dX5_look_82 rfl (lv_at hl 0 rfl) ?_
      refine lv_aload_n hx hb dX5_look_83 rfl (lv_at hl 1 rfl) ?_
      refine wd_get hC i4 hW 25 wC_c25 rfl 6 (Nat.le_of_ble_eq_true rfl) f43 rfl rfl dX5_look_84 ?_
      refine lv_iload_n hx hb dX5_look_87 rfl (lv_at hl 2 rfl) ?_
      obtain ⟨hi22, h⟩ := ck_of h
      refine wd_iald hC hW 26 wC_c26 hi22 dX5_look_88 ?_
      refine wd_put hC i5 tyX5_ok nmX5 hW 43 wC_c43 rfl 5 (Nat.le_of_ble_eq_true rfl) f46 rfl rfl rfl rfl (Nat.le_of_ble_eq_true rfl) wC_s43_5 dX5_look_89 (fun H locs hW => ?_)
      obtain ⟨S23, e24, h⟩ := nm_of h
      replace hW := wq_S e24 hW
      refine lv_aload_n hx hb dX5_look_92 rfl (lv_at hl 0 rfl) ?_
      refine lv_aload_n hx hb dX5_look_93 rfl (lv_at hl 1 rfl) ?_
      refine lv_iload_n hx hb dX5_look_94 rfl (lv_at hl 2 rfl) ?_
      obtain ⟨r25, hr26, h⟩ := bd_of h
      refine wd_callV1 (As := [.int p1]) hC hW 25 wC_c25 rfl (c_X4_leastOfM l D cy ad X S23 p1 r25 hr26) (cwV 1 hts (gu_V w_16_18 w_26_21 w_16_16 w_16_17 w_1_23) rfl rfl rfl hdX4_leastOf ⟨Nat.le_of_ble_eq_true rfl, Nat.le_of_ble_eq_true rfl⟩) rfl hl.1 rfl (Nat.le_of_ble_eq_true rfl) ⟨Nat.zero_le _, Nat.zero_le _⟩ dX5_look_95 (fun H locs hW => ?_)
      refine wd_put hC i5 tyX5_ok nmX5 hW 43 wC_c43 rfl 6 (Nat.le_of_ble_eq_true rfl) f51 rfl rfl rfl rfl (Nat.le_of_ble_eq_true rfl) wC_s43_6 dX5_look_98 (fun H locs hW => ?_)
      obtain ⟨S27, e28, h⟩ := nm_of h
      replace hW := wq_S e28 hW
      refine lv_aload_n hx hb dX5_look_101 rfl (lv_at hl 0 rfl) ?_
      refine lv_aload_n hx hb dX5_look_102 rfl (lv_at hl 0 rfl) ?_
      refine wd_get hC i5 hW 43 wC_c43 rfl 5 (Nat.le_of_ble_eq_true rfl) f46 rfl rfl dX5_look_103 ?_
      refine lv_if_ne (tgt := 113) hx hb dX5_look_106 (by decide) (fun c29 => ?_) (fun c29 => ?_)
      · replace h := ite_f h c29
        refine lv_iconst (v := 3) hx hb dX5_look_113 (by decide) ?_
        refine lv_aload_n hx hb dX5_look_114 rfl (lv_at hl 1 rfl) ?_
        refine wd_get hC i4 hW 25 wC_c25 rfl 4 (Nat.le_of_ble_eq_true rfl) f54 rfl rfl dX5_look_115 ?_
        refine lv_isub hx hb dX5_look_118 ?_
        refine lv_aload_n hx hb dX5_look_119 rfl (lv_at hl 1 rfl) ?_
        refine wd_get hC i4 hW 25 wC_c25 rfl 7 (Nat.le_of_ble_eq_true rfl) f57 rfl rfl dX5_look_120 ?_
        refine lv_iload_n hx hb dX5_look_123 rfl (lv_at hl 2 rfl) ?_
        obtain ⟨hi30, h⟩ := ck_of h
        refine wd_zald hC hW 27 wC_c27 hi30 dX5_look_124 ?_
        refine lv_if_eq (tgt := 132) hx hb dX5_look_125 (by decide) (fun c31 => ?_) (fun c31 => ?_)
        · replace h := ite_t h c31
          refine lv_iconst (v := 0) hx hb dX5_look_132 (by decide) ?_
          refine lv_isub hx hb dX5_look_133 ?_
          refine wd_put hC i5 tyX5_ok nmX5 hW 43 wC_c43 rfl 7 (Nat.le_of_ble_eq_true rfl) f60 rfl rfl rfl rfl (Nat.le_of_ble_eq_true rfl) wC_s43_7 dX5_look_134 (fun H locs hW => ?_)
          obtain ⟨S32, e33, h⟩ := nm_of h
          replace hW := wq_S e33 hW
          obtain rfl := Option.some.inj h
          exact wd_vret hA hQ hC hr hk hW dX5_look_137
        · replace h := ite_f h c31
          refine lv_iconst (v := 1) hx hb dX5_look_128 (by decide) ?_
          refine lv_goto (tgt := 133) hx hb dX5_look_129 (by decide) ?_
          refine lv_isub hx hb dX5_look_133 ?_
          refine wd_put hC i5 tyX5_ok nmX5 hW 43 wC_c43 rfl 7 (Nat.le_of_ble_eq_true rfl) f60 rfl rfl rfl rfl (Nat.le_of_ble_eq_true rfl) wC_s43_7 dX5_look_134 (fun H locs hW => ?_)
          obtain ⟨S34, e35, h⟩ := nm_of h
          replace hW := wq_S e35 hW
          obtain rfl := Option.some.inj h
          exact wd_vret hA hQ hC hr hk hW dX5_look_137
      · replace h := ite_t h c29
        refine lv_iconst (v := 0) hx hb dX5_look_109 (by decide) ?_
        refine lv_goto (tgt := 134) hx hb dX5_look_110 (by decide) ?_
        refine wd_put hC i5 tyX5_ok nmX5 hW 43 wC_c43 rfl 7 (Nat.le_of_ble_eq_true rfl) f60 rfl rfl rfl rfl (Nat.le_of_ble_eq_true rfl) wC_s43_7 dX5_look_134 (fun H locs hW => ?_)
        obtain ⟨S36, e37, h⟩ := nm_of h
        replace hW := wq_S e37 hW
        obtain rfl := Option.some.inj h
        exact wd_vret hA hQ hC hr hk hW dX5_look_137
    replace h := hq16
    refine lv_if_eq (tgt := 64) hx hb dX5_look_57 (by decide) (fun c14 => ?_) (fun c14 => ?_)
    · replace h := ite_t h c14
      refine lv_aload_n hx hb dX5_look_64 rfl (lv_at hl 0 rfl) ?_
      refine wd_get hC i5 hW 43 wC_c43 rfl 3 (Nat.le_of_ble_eq_true rfl) f29 rfl rfl dX5_look_65 ?_
      obtain rfl := Option.some.inj h
      exact hJ68 _ _ _ hW (lv_sub hl [0, 1, 2] rfl)
    · replace h := ite_f h c14
      refine lv_iconst (v := 0) hx hb dX5_look_60 (by decide) ?_
      refine lv_goto (tgt := 68) hx hb dX5_look_61 (by decide) ?_
      obtain rfl := Option.some.inj h
      exact hJ68 _ _ _ hW (lv_sub hl [0, 1, 2] rfl)
  replace h := hq9
  refine lv_icmp_ge (tgt := 43) hx hb dX5_look_24 (by decide) (fun c7 => ?_) (fun c7 => ?_)
  · replace h := ite_t h c7
    refine lv_iconst (v := 0) hx hb dX5_look_43 (by decide) ?_
    obtain rfl := Option.some.inj h
    exact hJ44 _ _ _ hW (lv_sub hl [0, 1, 2] rfl)
  · replace h := ite_f h c7
    refine lv_aload_n hx hb dX5_look_27 rfl (lv_at hl 1 rfl) ?_
    refine wd_get hC i4 hW 25 wC_c25 rfl 10 (Nat.le_of_ble_eq_true rfl) f25 rfl rfl dX5_look_28 ?_
    refine lv_iload_n hx hb dX5_look_31 rfl (lv_at hl 2 rfl) ?_
    refine lv_iconst (v := 3) hx hb dX5_look_32 (by decide) ?_
    refine lv_imul hx hb dX5_look_33 ?_
    refine lv_aload_n hx hb dX5_look_34 rfl (lv_at hl 0 rfl) ?_
    refine wd_get hC i5 hW 43 wC_c43 rfl 1 (Nat.le_of_ble_eq_true rfl) f24 rfl rfl dX5_look_35 ?_
    refine lv_iadd hx hb dX5_look_38 ?_
    obtain ⟨hi38, h⟩ := ck_of h
    refine wd_iald hC hW 30 wC_c30 hi38 dX5_look_39 ?_
    refine lv_goto (tgt := 44) hx hb dX5_look_40 (by decide) ?_
    obtain rfl := Option.some.inj h
    exact hJ44 _ _ _ hW (lv_sub hl [0, 1, 2] rfl)
def m_X5_hasTry (S : St) : Option (Int32) :=
  if (S.1 50) = 0 then (if 3 ≤ (S.1 51) then (some 0) else (if (S.1 57) ≤ 0 then (some 0) else (if 40 < (S.1 56) then (some 0) else (some 1)))) else (some 0)
set_option maxHeartbeats 4000000 in
set_option maxRecDepth 100000 in
theorem c_X5_hasTry (l : Launch) (D : va_G) (cy : Nat → ClassId) (ad : Nat → Nat) (X : va_W) (S : St) (r : (Int32)) (h : m_X5_hasTry S = some r) : CT l yX5_hasTry (wu yX5_hasTry cX5_hasTry 1 (some .boolean)) 0 D cy [.ref (ad 43)] (wC ad cy S ++ X) (some (.int r)) (wC ad cy S ++ X) := by
  refine CT.mk (cc := cX5_hasTry) (maxL := 1) (ret := (some .boolean)) (own := RX5) (by decide) rfl rfl (Nat.le_of_ble_eq_true rfl) ?_
  intro p e s m args below meth c ls A Q hA hQ hC hr hk hW hl
  have hx := hC.1
  have hb := hC.2.1
  have hown := hC.2.2.2.1
  have hts := hC.2.2.2.2
  have hl : lv_has ls 1 [(0, .ref (ad 43))] := hl
  have f15 := hts _ (wu_in w_26_6)
  have i5 := (fun w h => wu_in (inc_5 w h) : ∀ w ∈ u_ws RX5 TX5 8, w ∈ (wu yX5_hasTry cX5_hasTry 1 (some .boolean)))
  have f24 := hts _ (wu_in w_26_8)
  have f60 := hts _ (wu_in w_26_19)
  have f51 := hts _ (wu_in w_26_16)
  unfold m_X5_hasTry at h
  refine lv_aload_n hx hb dX5_hasTry_0 rfl (lv_at hl 0 rfl) ?_
  refine wd_get hC i5 hW 43 wC_c43 rfl 0 (Nat.le_of_ble_eq_true rfl) f15 rfl rfl dX5_hasTry_1 ?_
  refine lv_if_ne (tgt := 35) hx hb dX5_hasTry_4 (by decide) (fun c1 => ?_) (fun c1 => ?_)
  · replace h := ite_f h c1
    refine lv_iconst (v := 0) hx hb dX5_hasTry_35 (by decide) ?_
    obtain rfl := Option.some.inj h
    exact wd_zret hA hQ hC hr hk hW rfl dX5_hasTry_36
  · replace h := ite_t h c1
    refine lv_aload_n hx hb dX5_hasTry_7 rfl (lv_at hl 0 rfl) ?_
    refine wd_get hC i5 hW 43 wC_c43 rfl 1 (Nat.le_of_ble_eq_true rfl) f24 rfl rfl dX5_hasTry_8 ?_
    refine lv_iconst (v := 3) hx hb dX5_hasTry_11 (by decide) ?_
    refine lv_icmp_ge (tgt := 35) hx hb dX5_hasTry_12 (by decide) (fun c2 => ?_) (fun c2 => ?_)
    · replace h := ite_t h c2
      refine lv_iconst (v := 0) hx hb dX5_hasTry_35 (by decide) ?_
      obtain rfl := Option.some.inj h
      exact wd_zret hA hQ hC hr hk hW rfl dX5_hasTry_36
    · replace h := ite_f h c2
      refine lv_aload_n hx hb dX5_hasTry_15 rfl (lv_at hl 0 rfl) ?_
      refine wd_get hC i5 hW 43 wC_c43 rfl 7 (Nat.le_of_ble_eq_true rfl) f60 rfl rfl dX5_hasTry_16 ?_
      refine lv_if_le (tgt := 35) hx hb dX5_hasTry_19 (by decide) (fun c3 => ?_) (fun c3 => ?_)
      · replace h := ite_t h c3
        refine lv_iconst (v := 0) hx hb dX5_hasTry_35 (by decide) ?_
        obtain rfl := Option.some.inj h
        exact wd_zret hA hQ hC hr hk hW rfl dX5_hasTry_36
      · replace h := ite_f h c3
        refine lv_aload_n hx hb dX5_hasTry_22 rfl (lv_at hl 0 rfl) ?_
        refine wd_get hC i5 hW 43 wC_c43 rfl 6 (Nat.le_of_ble_eq_true rfl) f51 rfl rfl dX5_hasTry_23 ?_
        refine lv_bipush (v := 40) hx hb dX5_hasTry_26 (by decide) ?_
        refine lv_icmp_gt (tgt := 35) hx hb dX5_hasTry_28 (by decide) (fun c4 => ?_) (fun c4 => ?_)
        · replace h := ite_t h c4
          refine lv_iconst (v := 0) hx hb dX5_hasTry_35 (by decide) ?_
          obtain rfl := Option.some.inj h
          exact wd_zret hA hQ hC hr hk hW rfl dX5_hasTry_36
        · replace h := ite_f h c4
          refine lv_iconst (v := 1) hx hb dX5_hasTry_31 (by decide) ?_
          refine lv_goto (tgt := 36) hx hb dX5_hasTry_32 (by decide) ?_
          obtain rfl := Option.some.inj h
          exact wd_zret hA hQ hC hr hk hW rfl dX5_hasTry_36
def m_X5_findTry_L2 : Nat → St → Int32 → Option (St)
  | 0, _, _ => none
  | n + 1, S, x1 =>
    if 3 ≤ x1 then (some S) else (if (S.1 50) = 0 then (if 3 ≤ (S.1 51) then (some S) else ((m_X5_hasTry S).bind (fun r6 => if r6 = 0 then (if (S.1 53) = 0 then (nm (sI S 50 1) (fun S22 => m_X5_findTry_L2 n S22 (x1 + 1))) else (nm (sI S 52 ((S.1 52) + (S.1 53))) (fun S10 => nm (sI S10 51 ((S10.1 51) + 1)) (fun S12 => nm (sI S12 53 0) (fun S14 => nm (sI S14 54 0) (fun S16 => nm (sI S16 56 1) (fun S18 => nm (sI S18 57 3) (fun S20 => m_X5_findTry_L2 n S20 (x1 + 1))))))))) else (some S)))) else (some S))
theorem m_X5_findTry_L2_0 (S : St) (x1 : Int32) : m_X5_findTry_L2 0 S x1 = none := rfl
theorem m_X5_findTry_L2_s {n : Nat} {S : St} {x1 : Int32} : m_X5_findTry_L2 (n + 1) S x1 =
    (if 3 ≤ x1 then (some S) else (if (S.1 50) = 0 then (if 3 ≤ (S.1 51) then (some S) else ((m_X5_hasTry S).bind (fun r6 => if r6 = 0 then (if (S.1 53) = 0 then (nm (sI S 50 1) (fun S22 => m_X5_findTry_L2 n S22 (x1 + 1))) else (nm (sI S 52 ((S.1 52) + (S.1 53))) (fun S10 => nm (sI S10 51 ((S10.1 51) + 1)) (fun S12 => nm (sI S12 53 0) (fun S14 => nm (sI S14 54 0) (fun S16 => nm (sI S16 56 1) (fun S18 => nm (sI S18 57 3) (fun S20 => m_X5_findTry_L2 n S20 (x1 + 1))))))))) else (some S)))) else (some S))) := rfl
def m_X5_findTry (n : Nat) (S : St) : Option (Int32 × St) :=
  (m_X5_findTry_L2 n S 0).bind (fun q1 => (m_X5_hasTry q1).bind (fun r24 => ckb r24 (some (r24, q1))))
set_option maxHeartbeats 4000000 in
set_option maxRecDepth 100000 in
theorem c_X5_findTry (l : Launch) (D : va_G) (cy : Nat → ClassId) (ad : Nat → Nat) (X : va_W) (n : Nat) (S : St) (r : (Int32 × St)) (h : m_X5_findTry n S = some r) : CT l yX5_findTry (wu yX5_findTry cX5_findTry 2 (some .boolean)) 1 D cy [.ref (ad 43)] (wC ad cy S ++ X) (some (.int r.1)) (wC ad cy r.2 ++ X) := by
  refine CT.mk (cc := cX5_findTry) (maxL := 2) (ret := (some .boolean)) (own := RX5) (by decide) rfl rfl (Nat.le_of_ble_eq_true rfl) ?_
  intro p e s m args below meth c ls A Q hA hQ hC hr hk hW hl
  have hx := hC.1
  have hb := hC.2.1
  have hown := hC.2.2.2.1
  have hts := hC.2.2.2.2
  have hl : lv_has ls 2 [(0, .ref (ad 43))] := hl
  have f15 := hts _ (wu_in w_26_6)
  have i5 := (fun w h => wu_in (inc_5 w h) : ∀ w ∈ u_ws RX5 TX5 8, w ∈ (wu yX5_findTry cX5_findTry 2 (some .boolean)))
  have f24 := hts _ (wu_in w_26_8)
  have f29 := hts _ (wu_in w_26_10)
  have f35 := hts _ (wu_in w_26_11)
  have f41 := hts _ (wu_in w_26_13)
  have f51 := hts _ (wu_in w_26_16)
  have f60 := hts _ (wu_in w_26_19)
  unfold m_X5_findTry at h
  refine lv_iconst (v := 0) hx hb dX5_findTry_0 (by decide) ?_
  refine lv_istore_n (lv' := [(1, .int 0), (0, .ref (ad 43))]) hx hb dX5_findTry_1 rfl hl (by decide) rfl (fun ls hl => ?_)
  have hL2 : ∀ (n : Nat) (S : St) (x1 : Int32)  (H : Heap) (locs : List Loc) (ls : Array Slot) (r : (St)), m_X5_findTry_L2 n S x1 = some r → Wd D cy A s (wC ad cy S ++ X) H locs → lv_has ls 2 [(0, .ref (ad 43)), (1, .int x1)] → (∀ (H : Heap) (locs : List Loc) (ls : Array Slot), Wd D cy A s (wC ad cy r ++ X) H locs → lv_has ls 2 [(0, .ref (ad 43))] → W p l e (RM 1) s m args below meth c H locs 0 0 Q (F0 m 93 ls [])) → W p l e (RM 1) s m args below meth c H locs 0 0 Q (F0 m 2 ls []) := by
    intro n
    induction n with
    | zero =>
      intro S x1  H locs ls r h
      exact absurd (h.symm.trans (m_X5_findTry_L2_0 ..)) (by simp)
    | succ n ih =>
      intro S x1  H locs ls r h hW hl kk
      rw [m_X5_findTry_L2_s] at h
      refine lv_iload_n hx hb dX5_findTry_2 rfl (lv_at hl 1 rfl) ?_
      refine lv_iconst (v := 3) hx hb dX5_findTry_3 (by decide) ?_
      refine lv_icmp_ge (tgt := 93) hx hb dX5_findTry_4 (by decide) (fun c3 => ?_) (fun c3 => ?_)
      · replace h := ite_t h c3
        obtain rfl := Option.some.inj h
        exact kk _ _ _ hW (lv_sub hl [0] rfl)
      · replace h := ite_f h c3
        refine lv_aload_n hx hb dX5_findTry_7 rfl (lv_at hl 0 rfl) ?_
        refine wd_get hC i5 hW 43 wC_c43 rfl 0 (Nat.le_of_ble_eq_true rfl) f15 rfl rfl dX5_findTry_8 ?_
        refine lv_if_ne (tgt := 93) hx hb dX5_findTry_11 (by decide) (fun c4 => ?_) (fun c4 => ?_)
        · replace h := ite_f h c4
          obtain rfl := Option.some.inj h
          exact kk _ _ _ hW (lv_sub hl [0] rfl)
        · replace h := ite_t h c4
          refine lv_aload_n hx hb dX5_findTry_14 rfl (lv_at hl 0 rfl) ?_
          refine wd_get hC i5 hW 43 wC_c43 rfl 1 (Nat.le_of_ble_eq_true rfl) f24 rfl rfl dX5_findTry_15 ?_
          refine lv_iconst (v := 3) hx hb dX5_findTry_18 (by decide) ?_
          refine lv_icmp_ge (tgt := 93) hx hb dX5_findTry_19 (by decide) (fun c5 => ?_) (fun c5 => ?_)
          · replace h := ite_t h c5
            obtain rfl := Option.some.inj h
            exact kk _ _ _ hW (lv_sub hl [0] rfl)
          · replace h := ite_f h c5
            refine lv_aload_n hx hb dX5_findTry_22 rfl (lv_at hl 0 rfl) ?_
            obtain ⟨r6, hr7, h⟩ := bd_of h
            refine wd_callV1 (As := []) hC hW 43 wC_c43 rfl (c_X5_hasTry l D cy ad X S r6 hr7) (cwV 0 hts (gu_V w_36_18 w_36_15 w_36_16 w_36_17 w_2_4) rfl rfl rfl hdX5_hasTry ⟨Nat.le_of_ble_eq_true rfl, Nat.le_of_ble_eq_true rfl⟩) rfl hl.1 rfl (Nat.le_of_ble_eq_true rfl) ⟨Nat.zero_le _, Nat.zero_le _⟩ dX5_findTry_23 (fun H locs hW => ?_)
            refine lv_if_ne (tgt := 93) hx hb dX5_findTry_26 (by decide) (fun c8 => ?_) (fun c8 => ?_)
            · replace h := ite_f h c8
              obtain rfl := Option.some.inj h
              exact kk _ _ _ hW (lv_sub hl [0] rfl)
            · replace h := ite_t h c8
              refine lv_aload_n hx hb dX5_findTry_29 rfl (lv_at hl 0 rfl) ?_
              refine wd_get hC i5 hW 43 wC_c43 rfl 3 (Nat.le_of_ble_eq_true rfl) f29 rfl rfl dX5_findTry_30 ?_
              refine lv_if_ne (tgt := 44) hx hb dX5_findTry_33 (by decide) (fun c9 => ?_) (fun c9 => ?_)
              · replace h := ite_f h c9
                refine lv_aload_n hx hb dX5_findTry_44 rfl (lv_at hl 0 rfl) ?_
                refine lv_dup hx hb dX5_findTry_45 rfl ?_
                refine wd_get hC i5 hW 43 wC_c43 rfl 2 (Nat.le_of_ble_eq_true rfl) f35 rfl rfl dX5_findTry_46 ?_
                refine lv_aload_n hx hb dX5_findTry_49 rfl (lv_at hl 0 rfl) ?_
                refine wd_get hC i5 hW 43 wC_c43 rfl 3 (Nat.le_of_ble_eq_true rfl) f29 rfl rfl dX5_findTry_50 ?_
                refine lv_iadd hx hb dX5_findTry_53 ?_
                refine wd_put hC i5 tyX5_ok nmX5 hW 43 wC_c43 rfl 2 (Nat.le_of_ble_eq_true rfl) f35 rfl rfl rfl rfl (Nat.le_of_ble_eq_true rfl) wC_s43_2 dX5_findTry_54 (fun H locs hW => ?_)
                obtain ⟨S10, e11, h⟩ := nm_of h
                replace hW := wq_S e11 hW
                refine lv_aload_n hx hb dX5_findTry_57 rfl (lv_at hl 0 rfl) ?_
                refine lv_dup hx hb dX5_findTry_58 rfl ?_
                refine wd_get hC i5 hW 43 wC_c43 rfl 1 (Nat.le_of_ble_eq_true rfl) f24 rfl rfl dX5_findTry_59 ?_
                refine lv_iconst (v := 1) hx hb dX5_findTry_62 (by decide) ?_
                refine lv_iadd hx hb dX5_findTry_63 ?_
                refine wd_put hC i5 tyX5_ok nmX5 hW 43 wC_c43 rfl 1 (Nat.le_of_ble_eq_true rfl) f24 rfl rfl rfl rfl (Nat.le_of_ble_eq_true rfl) wC_s43_1 dX5_findTry_64 (fun H locs hW => ?_)
                obtain ⟨S12, e13, h⟩ := nm_of h
                replace hW := wq_S e13 hW
                refine lv_aload_n hx hb dX5_findTry_67 rfl (lv_at hl 0 rfl) ?_
                refine lv_iconst (v := 0) hx hb dX5_findTry_68 (by decide) ?_
                refine wd_put hC i5 tyX5_ok nmX5 hW 43 wC_c43 rfl 3 (Nat.le_of_ble_eq_true rfl) f29 rfl rfl rfl rfl (Nat.le_of_ble_eq_true rfl) wC_s43_3 dX5_findTry_69 (fun H locs hW => ?_)
                obtain ⟨S14, e15, h⟩ := nm_of h
                replace hW := wq_S e15 hW
                refine lv_aload_n hx hb dX5_findTry_72 rfl (lv_at hl 0 rfl) ?_
                refine lv_iconst (v := 0) hx hb dX5_findTry_73 (by decide) ?_
                refine wd_put hC i5 tyX5_ok nmX5 hW 43 wC_c43 rfl 4 (Nat.le_of_ble_eq_true rfl) f41 rfl rfl rfl rfl (Nat.le_of_ble_eq_true rfl) wC_s43_4 dX5_findTry_74 (fun H locs hW => ?_)
                obtain ⟨S16, e17, h⟩ := nm_of h
                replace hW := wq_S e17 hW
                refine lv_aload_n hx hb dX5_findTry_77 rfl (lv_at hl 0 rfl) ?_
                refine lv_iconst (v := 1) hx hb dX5_findTry_78 (by decide) ?_
                refine wd_put hC i5 tyX5_ok nmX5 hW 43 wC_c43 rfl 6 (Nat.le_of_ble_eq_true rfl) f51 rfl rfl rfl rfl (Nat.le_of_ble_eq_true rfl) wC_s43_6 dX5_findTry_79 (fun H locs hW => ?_)
                obtain ⟨S18, e19, h⟩ := nm_of h
                replace hW := wq_S e19 hW
                refine lv_aload_n hx hb dX5_findTry_82 rfl (lv_at hl 0 rfl) ?_
                refine lv_iconst (v := 3) hx hb dX5_findTry_83 (by decide) ?_
                refine wd_put hC i5 tyX5_ok nmX5 hW 43 wC_c43 rfl 7 (Nat.le_of_ble_eq_true rfl) f60 rfl rfl rfl rfl (Nat.le_of_ble_eq_true rfl) wC_s43_7 dX5_findTry_84 (fun H locs hW => ?_)
                obtain ⟨S20, e21, h⟩ := nm_of h
                replace hW := wq_S e21 hW
                refine lv_iinc (v := x1 + 1) (lv' := [(1, .int (x1 + 1)), (0, .ref (ad 43))]) hx hb dX5_findTry_87 hl (k := 1) rfl rfl (by decide) rfl (fun ls hl => ?_)
                refine lv_goto (tgt := 2) hx hb dX5_findTry_90 (by decide) ?_
                exact ih S20 (x1 + 1) _ _ _ r h hW (lv_sub hl [1, 0] rfl) kk
              · replace h := ite_t h c9
                refine lv_aload_n hx hb dX5_findTry_36 rfl (lv_at hl 0 rfl) ?_
                refine lv_iconst (v := 1) hx hb dX5_findTry_37 (by decide) ?_
                refine wd_put hC i5 tyX5_ok nmX5 hW 43 wC_c43 rfl 0 (Nat.le_of_ble_eq_true rfl) f15 rfl rfl rfl rfl (Nat.le_of_ble_eq_true rfl) wC_s43_0 dX5_findTry_38 (fun H locs hW => ?_)
                obtain ⟨S22, e23, h⟩ := nm_of h
                replace hW := wq_S e23 hW
                refine lv_goto (tgt := 87) hx hb dX5_findTry_41 (by decide) ?_
                refine lv_iinc (v := x1 + 1) (lv' := [(1, .int (x1 + 1)), (0, .ref (ad 43))]) hx hb dX5_findTry_87 hl (k := 1) rfl rfl (by decide) rfl (fun ls hl => ?_)
                refine lv_goto (tgt := 2) hx hb dX5_findTry_90 (by decide) ?_
                exact ih S22 (x1 + 1) _ _ _ r h hW (lv_sub hl [1, 0] rfl) kk
  obtain ⟨q1, hq2, h⟩ := bd_of h
  refine hL2 n S 0  _ _ _ q1 hq2 hW (lv_sub hl [1, 0] rfl) (fun H locs ls hW hl => ?_)
  refine lv_aload_n hx hb dX5_findTry_93 rfl (lv_at hl 0 rfl) ?_
  obtain ⟨r24, hr25, h⟩ := bd_of h
  refine wd_callV1 (As := []) hC hW 43 wC_c43 rfl (c_X5_hasTry l D cy ad X q1 r24 hr25) (cwV 0 hts (gu_V w_36_18 w_36_15 w_36_16 w_36_17 w_2_4) rfl rfl rfl hdX5_hasTry ⟨Nat.le_of_ble_eq_true rfl, Nat.le_of_ble_eq_true rfl⟩) rfl hl.1 rfl (Nat.le_of_ble_eq_true rfl) ⟨Nat.zero_le _, Nat.zero_le _⟩ dX5_findTry_94 (fun H locs hW => ?_)
  obtain ⟨hb26, h⟩ := ckb_of h
  obtain rfl := Option.some.inj h
  exact wd_zret hA hQ hC hr hk hW (ckb_nar hb26) dX5_findTry_97
def m_X5_take (S : St) (p0 : Int32) (p1 : Int32) : Option (St) :=
  nm (sI S 57 ((S.1 57) - 1)) (fun S1 => if p1 = 0 then (nm (sI S1 54 ((S1.1 54) + 1)) (fun S4 => nm (sI S4 56 p0) (fun S6 => some S6))) else (nm (sI S1 53 p0) (fun S8 => nm (sI S8 56 (p0 + 1)) (fun S10 => some S10))))
set_option maxHeartbeats 4000000 in
set_option maxRecDepth 100000 in
theorem c_X5_take (l : Launch) (D : va_G) (cy : Nat → ClassId) (ad : Nat → Nat) (X : va_W) (S : St) (p0 : Int32) (p1 : Int32) (r : (St)) (h : m_X5_take S p0 p1 = some r) : CT l yX5_take (wu yX5_take cX5_take 3 none) 0 D cy [.ref (ad 43), .int p0, .int p1] (wC ad cy S ++ X) (none) (wC ad cy r ++ X) := by
  refine CT.mk (cc := cX5_take) (maxL := 3) (ret := none) (own := RX5) (by decide) rfl rfl (Nat.le_of_ble_eq_true rfl) ?_
  intro p e s m args below meth c ls A Q hA hQ hC hr hk hW hl
  have hx := hC.1
  have hb := hC.2.1
  have hown := hC.2.2.2.1
  have hts := hC.2.2.2.2
  have hl : lv_has ls 3 [(0, .ref (ad 43)), (1, .int p0), (2, .int p1)] := hl
  have f60 := hts _ (wu_in w_26_19)
  have i5 := (fun w h => wu_in (inc_5 w h) : ∀ w ∈ u_ws RX5 TX5 8, w ∈ (wu yX5_take cX5_take 3 none))
  have f41 := hts _ (wu_in w_26_13)
  have f51 := hts _ (wu_in w_26_16)
  have f29 := hts _ (wu_in w_26_10)
  unfold m_X5_take at h
  refine lv_aload_n hx hb dX5_take_0 rfl (lv_at hl 0 rfl) ?_
  refine lv_dup hx hb dX5_take_1 rfl ?_
  refine wd_get hC i5 hW 43 wC_c43 rfl 7 (Nat.le_of_ble_eq_true rfl) f60 rfl rfl dX5_take_2 ?_
  refine lv_iconst (v := 1) hx hb dX5_take_5 (by decide) ?_
  refine lv_isub hx hb dX5_take_6 ?_
  refine wd_put hC i5 tyX5_ok nmX5 hW 43 wC_c43 rfl 7 (Nat.le_of_ble_eq_true rfl) f60 rfl rfl rfl rfl (Nat.le_of_ble_eq_true rfl) wC_s43_7 dX5_take_7 (fun H locs hW => ?_)
  obtain ⟨S1, e2, h⟩ := nm_of h
  replace hW := wq_S e2 hW
  refine lv_iload_n hx hb dX5_take_10 rfl (lv_at hl 2 rfl) ?_
  refine lv_if_eq (tgt := 29) hx hb dX5_take_11 (by decide) (fun c3 => ?_) (fun c3 => ?_)
  · replace h := ite_t h c3
    refine lv_aload_n hx hb dX5_take_29 rfl (lv_at hl 0 rfl) ?_
    refine lv_dup hx hb dX5_take_30 rfl ?_
    refine wd_get hC i5 hW 43 wC_c43 rfl 4 (Nat.le_of_ble_eq_true rfl) f41 rfl rfl dX5_take_31 ?_
    refine lv_iconst (v := 1) hx hb dX5_take_34 (by decide) ?_
    refine lv_iadd hx hb dX5_take_35 ?_
    refine wd_put hC i5 tyX5_ok nmX5 hW 43 wC_c43 rfl 4 (Nat.le_of_ble_eq_true rfl) f41 rfl rfl rfl rfl (Nat.le_of_ble_eq_true rfl) wC_s43_4 dX5_take_36 (fun H locs hW => ?_)
    obtain ⟨S4, e5, h⟩ := nm_of h
    replace hW := wq_S e5 hW
    refine lv_aload_n hx hb dX5_take_39 rfl (lv_at hl 0 rfl) ?_
    refine lv_iload_n hx hb dX5_take_40 rfl (lv_at hl 1 rfl) ?_
    refine wd_put hC i5 tyX5_ok nmX5 hW 43 wC_c43 rfl 6 (Nat.le_of_ble_eq_true rfl) f51 rfl rfl rfl rfl (Nat.le_of_ble_eq_true rfl) wC_s43_6 dX5_take_41 (fun H locs hW => ?_)
    obtain ⟨S6, e7, h⟩ := nm_of h
    replace hW := wq_S e7 hW
    obtain rfl := Option.some.inj h
    exact wd_vret hA hQ hC hr hk hW dX5_take_44
  · replace h := ite_f h c3
    refine lv_aload_n hx hb dX5_take_14 rfl (lv_at hl 0 rfl) ?_
    refine lv_iload_n hx hb dX5_take_15 rfl (lv_at hl 1 rfl) ?_
    refine wd_put hC i5 tyX5_ok nmX5 hW 43 wC_c43 rfl 3 (Nat.le_of_ble_eq_true rfl) f29 rfl rfl rfl rfl (Nat.le_of_ble_eq_true rfl) wC_s43_3 dX5_take_16 (fun H locs hW => ?_)
    obtain ⟨S8, e9, h⟩ := nm_of h
    replace hW := wq_S e9 hW
    refine lv_aload_n hx hb dX5_take_19 rfl (lv_at hl 0 rfl) ?_
    refine lv_iload_n hx hb dX5_take_20 rfl (lv_at hl 1 rfl) ?_
    refine lv_iconst (v := 1) hx hb dX5_take_21 (by decide) ?_
    refine lv_iadd hx hb dX5_take_22 ?_
    refine wd_put hC i5 tyX5_ok nmX5 hW 43 wC_c43 rfl 6 (Nat.le_of_ble_eq_true rfl) f51 rfl rfl rfl rfl (Nat.le_of_ble_eq_true rfl) wC_s43_6 dX5_take_23 (fun H locs hW => ?_)
    obtain ⟨S10, e11, h⟩ := nm_of h
    replace hW := wq_S e11 hW
    refine lv_goto (tgt := 44) hx hb dX5_take_26 (by decide) ?_
    obtain rfl := Option.some.inj h
    exact wd_vret hA hQ hC hr hk hW dX5_take_44
def m_X0_beMass_L2 : Nat → St → Int32 → Option (St)
  | 0, _, _ => none
  | n + 1, S, x1 =>
    if 242 ≤ x1 then (some S) else (ck x1 242 (nm (sA S 45 x1.toNatClampNeg (1000 * x1)) (fun S5 => m_X0_beMass_L2 n S5 (x1 + 1))))
theorem m_X0_beMass_L2_0 (S : St) (x1 : Int32) : m_X0_beMass_L2 0 S x1 = none := rfl
theorem m_X0_beMass_L2_s {n : Nat} {S : St} {x1 : Int32} : m_X0_beMass_L2 (n + 1) S x1 =
    (if 242 ≤ x1 then (some S) else (ck x1 242 (nm (sA S 45 x1.toNatClampNeg (1000 * x1)) (fun S5 => m_X0_beMass_L2 n S5 (x1 + 1))))) := rfl
def m_X0_beMass (n : Nat) (S : St) : Option (St) :=
  (m_X0_beMass_L2 n S 0).bind (fun q1 => nm (sI q1 60 0) (fun S7 => some S7))
set_option maxHeartbeats 4000000 in
set_option maxRecDepth 100000 in
theorem c_X0_beMass (l : Launch) (D : va_G) (cy : Nat → ClassId) (ad : Nat → Nat) (X : va_W) (n : Nat) (S : St) (r : (St)) (h : m_X0_beMass n S = some r) : CT l yX0_beMass (wu yX0_beMass cX0_beMass 2 none) 0 D cy [.ref (ad 44)] (wC ad cy S ++ X) (none) (wC ad cy r ++ X) := by
  refine CT.mk (cc := cX0_beMass) (maxL := 2) (ret := none) (own := RX0) (by decide) rfl rfl (Nat.le_of_ble_eq_true rfl) ?_
  intro p e s m args below meth c ls A Q hA hQ hC hr hk hW hl
  have hx := hC.1
  have hb := hC.2.1
  have hown := hC.2.2.2.1
  have hts := hC.2.2.2.2
  have hl : lv_has ls 2 [(0, .ref (ad 44))] := hl
  have f9 := hts _ (wu_in w_4_13)
  have i0 := (fun w h => wu_in (inc_0 w h) : ∀ w ∈ u_ws RX0 TX0 2, w ∈ (wu yX0_beMass cX0_beMass 2 none))
  have f15 := hts _ (wu_in w_4_14)
  unfold m_X0_beMass at h
  refine lv_iconst (v := 0) hx hb dX0_beMass_0 (by decide) ?_
  refine lv_istore_n (lv' := [(1, .int 0), (0, .ref (ad 44))]) hx hb dX0_beMass_1 rfl hl (by decide) rfl (fun ls hl => ?_)
  have hL2 : ∀ (n : Nat) (S : St) (x1 : Int32)  (H : Heap) (locs : List Loc) (ls : Array Slot) (r : (St)), m_X0_beMass_L2 n S x1 = some r → Wd D cy A s (wC ad cy S ++ X) H locs → lv_has ls 2 [(0, .ref (ad 44)), (1, .int x1)] → (∀ (H : Heap) (locs : List Loc) (ls : Array Slot), Wd D cy A s (wC ad cy r ++ X) H locs → lv_has ls 2 [(0, .ref (ad 44))] → W p l e (RM 0) s m args below meth c H locs 0 0 Q (F0 m 28 ls [])) → W p l e (RM 0) s m args below meth c H locs 0 0 Q (F0 m 2 ls []) := by
    intro n
    induction n with
    | zero =>
      intro S x1  H locs ls r h
      exact absurd (h.symm.trans (m_X0_beMass_L2_0 ..)) (by simp)
    | succ n ih =>
      intro S x1  H locs ls r h hW hl kk
      rw [m_X0_beMass_L2_s] at h
      refine lv_iload_n hx hb dX0_beMass_2 rfl (lv_at hl 1 rfl) ?_
      refine lv_aload_n hx hb dX0_beMass_3 rfl (lv_at hl 0 rfl) ?_
      refine wd_get hC i0 hW 44 wC_c44 rfl 0 (Nat.le_of_ble_eq_true rfl) f9 rfl rfl dX0_beMass_4 ?_
      refine wd_alen hC hW 45 0 wC_c45 rfl (v := 242) rfl dX0_beMass_7 ?_
      refine lv_icmp_ge (tgt := 28) hx hb dX0_beMass_8 (by decide) (fun c3 => ?_) (fun c3 => ?_)
      · replace h := ite_t h c3
        obtain rfl := Option.some.inj h
        exact kk _ _ _ hW (lv_sub hl [0] rfl)
      · replace h := ite_f h c3
        refine lv_aload_n hx hb dX0_beMass_11 rfl (lv_at hl 0 rfl) ?_
        refine wd_get hC i0 hW 44 wC_c44 rfl 0 (Nat.le_of_ble_eq_true rfl) f9 rfl rfl dX0_beMass_12 ?_
        refine lv_iload_n hx hb dX0_beMass_15 rfl (lv_at hl 1 rfl) ?_
        refine lv_sipush (v := 1000) hx hb dX0_beMass_16 (by decide) ?_
        refine lv_iload_n hx hb dX0_beMass_19 rfl (lv_at hl 1 rfl) ?_
        refine lv_imul hx hb dX0_beMass_20 ?_
        obtain ⟨hi4, h⟩ := ck_of h
        refine wd_iast hC hW 45 wC_c45 hi4 wC_t45 dX0_beMass_21 (fun H locs hW => ?_)
        obtain ⟨S5, e6, h⟩ := nm_of h
        replace hW := wq_S e6 hW
        refine lv_iinc (v := x1 + 1) (lv' := [(1, .int (x1 + 1)), (0, .ref (ad 44))]) hx hb dX0_beMass_22 hl (k := 1) rfl rfl (by decide) rfl (fun ls hl => ?_)
        refine lv_goto (tgt := 2) hx hb dX0_beMass_25 (by decide) ?_
        exact ih S5 (x1 + 1) _ _ _ r h hW (lv_sub hl [1, 0] rfl) kk
  obtain ⟨q1, hq2, h⟩ := bd_of h
  refine hL2 n S 0  _ _ _ q1 hq2 hW (lv_sub hl [1, 0] rfl) (fun H locs ls hW hl => ?_)
  refine lv_aload_n hx hb dX0_beMass_28 rfl (lv_at hl 0 rfl) ?_
  refine lv_iconst (v := 0) hx hb dX0_beMass_29 (by decide) ?_
  refine wd_put hC i0 tyX0_ok nmX0 hW 44 wC_c44 rfl 1 (Nat.le_of_ble_eq_true rfl) f15 rfl rfl rfl rfl (Nat.le_of_ble_eq_true rfl) wC_s44_1 dX0_beMass_30 (fun H locs hW => ?_)
  obtain ⟨S7, e8, h⟩ := nm_of h
  replace hW := wq_S e8 hW
  obtain rfl := Option.some.inj h
  exact wd_vret hA hQ hC hr hk hW dX0_beMass_33
def m_X0_beReach_L2 : Nat → St → Int32 → Int32 → Option (St)
  | 0, _, _, _ => none
  | n + 1, S, x1, x2 =>
    if 242 ≤ x2 then (some S) else (if x2 < x1 then (ck x2 242 (nm (sA S 45 x2.toNatClampNeg 0) (fun S6 => m_X0_beReach_L2 n S6 x1 (x2 + 1)))) else (ck x2 242 (nm (sA S 45 x2.toNatClampNeg 1000000) (fun S9 => m_X0_beReach_L2 n S9 x1 (x2 + 1)))))
theorem m_X0_beReach_L2_0 (S : St) (x1 : Int32) (x2 : Int32) : m_X0_beReach_L2 0 S x1 x2 = none := rfl
theorem m_X0_beReach_L2_s {n : Nat} {S : St} {x1 : Int32} {x2 : Int32} : m_X0_beReach_L2 (n + 1) S x1 x2 =
    (if 242 ≤ x2 then (some S) else (if x2 < x1 then (ck x2 242 (nm (sA S 45 x2.toNatClampNeg 0) (fun S6 => m_X0_beReach_L2 n S6 x1 (x2 + 1)))) else (ck x2 242 (nm (sA S 45 x2.toNatClampNeg 1000000) (fun S9 => m_X0_beReach_L2 n S9 x1 (x2 + 1)))))) := rfl
def m_X0_beReach (n : Nat) (S : St) (p0 : Int32) : Option (St) :=
  (m_X0_beReach_L2 n S p0 0).bind (fun q1 => ck 0 242 (nm (sI q1 60 (q1.2.1 45 ((0 : Int32).toNatClampNeg))) (fun S12 => some S12)))
set_option maxHeartbeats 4000000 in
set_option maxRecDepth 100000 in
theorem c_X0_beReach (l : Launch) (D : va_G) (cy : Nat → ClassId) (ad : Nat → Nat) (X : va_W) (n : Nat) (S : St) (p0 : Int32) (r : (St)) (h : m_X0_beReach n S p0 = some r) : CT l yX0_beReach (wu yX0_beReach cX0_beReach 3 none) 0 D cy [.ref (ad 44), .int p0] (wC ad cy S ++ X) (none) (wC ad cy r ++ X) := by
  refine CT.mk (cc := cX0_beReach) (maxL := 3) (ret := none) (own := RX0) (by decide) rfl rfl (Nat.le_of_ble_eq_true rfl) ?_
  intro p e s m args below meth c ls A Q hA hQ hC hr hk hW hl
  have hx := hC.1
  have hb := hC.2.1
  have hown := hC.2.2.2.1
  have hts := hC.2.2.2.2
  have hl : lv_has ls 3 [(0, .ref (ad 44)), (1, .int p0)] := hl
  have f9 := hts _ (wu_in w_4_13)
  have i0 := (fun w h => wu_in (inc_0 w h) : ∀ w ∈ u_ws RX0 TX0 2, w ∈ (wu yX0_beReach cX0_beReach 3 none))
  have k19 := hts _ (wu_in w_29_19)
  have f15 := hts _ (wu_in w_4_14)
  unfold m_X0_beReach at h
  refine lv_iconst (v := 0) hx hb dX0_beReach_0 (by decide) ?_
  refine lv_istore_n (lv' := [(2, .int 0), (0, .ref (ad 44)), (1, .int p0)]) hx hb dX0_beReach_1 rfl hl (by decide) rfl (fun ls hl => ?_)
  have hL2 : ∀ (n : Nat) (S : St) (x1 : Int32) (x2 : Int32)  (H : Heap) (locs : List Loc) (ls : Array Slot) (r : (St)), m_X0_beReach_L2 n S x1 x2 = some r → Wd D cy A s (wC ad cy S ++ X) H locs → lv_has ls 3 [(0, .ref (ad 44)), (1, .int x1), (2, .int x2)] → (∀ (H : Heap) (locs : List Loc) (ls : Array Slot), Wd D cy A s (wC ad cy r ++ X) H locs → lv_has ls 3 [(0, .ref (ad 44)), (1, .int x1)] → W p l e (RM 0) s m args below meth c H locs 0 0 Q (F0 m 34 ls [])) → W p l e (RM 0) s m args below meth c H locs 0 0 Q (F0 m 2 ls []) := by
    intro n
    induction n with
    | zero =>
      intro S x1 x2  H locs ls r h
      exact absurd (h.symm.trans (m_X0_beReach_L2_0 ..)) (by simp)
    | succ n ih =>
      intro S x1 x2  H locs ls r h hW hl kk
      rw [m_X0_beReach_L2_s] at h
      refine lv_iload_n hx hb dX0_beReach_2 rfl (lv_at hl 2 rfl) ?_
      refine lv_aload_n hx hb dX0_beReach_3 rfl (lv_at hl 0 rfl) ?_
      refine wd_get hC i0 hW 44 wC_c44 rfl 0 (Nat.le_of_ble_eq_true rfl) f9 rfl rfl dX0_beReach_4 ?_
      refine wd_alen hC hW 45 0 wC_c45 rfl (v := 242) rfl dX0_beReach_7 ?_
      refine lv_icmp_ge (tgt := 34) hx hb dX0_beReach_8 (by decide) (fun c3 => ?_) (fun c3 => ?_)
      · replace h := ite_t h c3
        obtain rfl := Option.some.inj h
        exact kk _ _ _ hW (lv_sub hl [0, 1] rfl)
      · replace h := ite_f h c3
        refine lv_aload_n hx hb dX0_beReach_11 rfl (lv_at hl 0 rfl) ?_
        refine wd_get hC i0 hW 44 wC_c44 rfl 0 (Nat.le_of_ble_eq_true rfl) f9 rfl rfl dX0_beReach_12 ?_
        refine lv_iload_n hx hb dX0_beReach_15 rfl (lv_at hl 2 rfl) ?_
        refine lv_iload_n hx hb dX0_beReach_16 rfl (lv_at hl 2 rfl) ?_
        refine lv_iload_n hx hb dX0_beReach_17 rfl (lv_at hl 1 rfl) ?_
        refine lv_icmp_lt (tgt := 26) hx hb dX0_beReach_18 (by decide) (fun c4 => ?_) (fun c4 => ?_)
        · replace h := ite_t h c4
          refine lv_iconst (v := 0) hx hb dX0_beReach_26 (by decide) ?_
          obtain ⟨hi5, h⟩ := ck_of h
          refine wd_iast hC hW 45 wC_c45 hi5 wC_t45 dX0_beReach_27 (fun H locs hW => ?_)
          obtain ⟨S6, e7, h⟩ := nm_of h
          replace hW := wq_S e7 hW
          refine lv_iinc (v := x2 + 1) (lv' := [(2, .int (x2 + 1)), (0, .ref (ad 44)), (1, .int x1)]) hx hb dX0_beReach_28 hl (k := 2) rfl rfl (by decide) rfl (fun ls hl => ?_)
          refine lv_goto (tgt := 2) hx hb dX0_beReach_31 (by decide) ?_
          exact ih S6 x1 (x2 + 1) _ _ _ r h hW (lv_sub hl [1, 2, 0] rfl) kk
        · replace h := ite_f h c4
          refine lv_ldc hx hb hown k19 dX0_beReach_21 ?_
          refine lv_goto (tgt := 27) hx hb dX0_beReach_23 (by decide) ?_
          obtain ⟨hi8, h⟩ := ck_of h
          refine wd_iast hC hW 45 wC_c45 hi8 wC_t45 dX0_beReach_27 (fun H locs hW => ?_)
          obtain ⟨S9, e10, h⟩ := nm_of h
          replace hW := wq_S e10 hW
          refine lv_iinc (v := x2 + 1) (lv' := [(2, .int (x2 + 1)), (0, .ref (ad 44)), (1, .int x1)]) hx hb dX0_beReach_28 hl (k := 2) rfl rfl (by decide) rfl (fun ls hl => ?_)
          refine lv_goto (tgt := 2) hx hb dX0_beReach_31 (by decide) ?_
          exact ih S9 x1 (x2 + 1) _ _ _ r h hW (lv_sub hl [1, 2, 0] rfl) kk
  obtain ⟨q1, hq2, h⟩ := bd_of h
  refine hL2 n S p0 0  _ _ _ q1 hq2 hW (lv_sub hl [1, 2, 0] rfl) (fun H locs ls hW hl => ?_)
  refine lv_aload_n hx hb dX0_beReach_34 rfl (lv_at hl 0 rfl) ?_
  refine lv_aload_n hx hb dX0_beReach_35 rfl (lv_at hl 0 rfl) ?_
  refine wd_get hC i0 hW 44 wC_c44 rfl 0 (Nat.le_of_ble_eq_true rfl) f9 rfl rfl dX0_beReach_36 ?_
  refine lv_iconst (v := 0) hx hb dX0_beReach_39 (by decide) ?_
  obtain ⟨hi11, h⟩ := ck_of h
  refine wd_iald hC hW 45 wC_c45 hi11 dX0_beReach_40 ?_
  refine wd_put hC i0 tyX0_ok nmX0 hW 44 wC_c44 rfl 1 (Nat.le_of_ble_eq_true rfl) f15 rfl rfl rfl rfl (Nat.le_of_ble_eq_true rfl) wC_s44_1 dX0_beReach_41 (fun H locs hW => ?_)
  obtain ⟨S12, e13, h⟩ := nm_of h
  replace hW := wq_S e13 hW
  obtain rfl := Option.some.inj h
  exact wd_vret hA hQ hC hr hk hW dX0_beReach_44
def m_X0_beStep (n : Nat) (S : St) : Option (St) :=
  (m_X0_beReach n S 121).bind (fun r1 => some r1)
set_option maxHeartbeats 4000000 in
set_option maxRecDepth 100000 in
theorem c_X0_beStep (l : Launch) (D : va_G) (cy : Nat → ClassId) (ad : Nat → Nat) (X : va_W) (n : Nat) (S : St) (r : (St)) (h : m_X0_beStep n S = some r) : CT l yX0_beStep (wu yX0_beStep cX0_beStep 1 none) 1 D cy [.ref (ad 44)] (wC ad cy S ++ X) (none) (wC ad cy r ++ X) := by
  refine CT.mk (cc := cX0_beStep) (maxL := 1) (ret := none) (own := RX0) (by decide) rfl rfl (Nat.le_of_ble_eq_true rfl) ?_
  intro p e s m args below meth c ls A Q hA hQ hC hr hk hW hl
  have hx := hC.1
  have hb := hC.2.1
  have hown := hC.2.2.2.1
  have hts := hC.2.2.2.2
  have hl : lv_has ls 1 [(0, .ref (ad 44))] := hl
  unfold m_X0_beStep at h
  refine lv_aload_n hx hb dX0_beStep_0 rfl (lv_at hl 0 rfl) ?_
  refine lv_bipush (v := 121) hx hb dX0_beStep_1 (by decide) ?_
  obtain ⟨r1, hr2, h⟩ := bd_of h
  refine wd_callV0 (As := [.int 121]) hC hW 44 wC_c44 rfl (c_X0_beReach l D cy ad X n S 121 r1 hr2) (cwV 1 hts (gu_V w_29_18 w_31_3 w_29_16 w_29_17 w_2_8) rfl rfl rfl hdX0_beReach ⟨Nat.le_of_ble_eq_true rfl, Nat.le_of_ble_eq_true rfl⟩) rfl hl.1 rfl (Nat.le_of_ble_eq_true rfl) ⟨Nat.zero_le _, Nat.zero_le _⟩ dX0_beStep_3 (fun H locs hW => ?_)
  obtain rfl := Option.some.inj h
  exact wd_vret hA hQ hC hr hk hW dX0_beStep_6
def m_X0_beSure (S : St) : Option (St) :=
  nm (sF S 45 (fun _ => 1000000)) (fun S1 => ck 0 242 (nm (sA S1 45 ((0 : Int32).toNatClampNeg) 0) (fun S4 => nm (sI S4 60 0) (fun S6 => some S6))))
set_option maxHeartbeats 4000000 in
set_option maxRecDepth 100000 in
theorem c_X0_beSure (l : Launch) (D : va_G) (cy : Nat → ClassId) (ad : Nat → Nat) (X : va_W) (S : St) (r : (St)) (h : m_X0_beSure S = some r) : CT l yX0_beSure (wu yX0_beSure cX0_beSure 1 none) 1 D cy [.ref (ad 44)] (wC ad cy S ++ X) (none) (wC ad cy r ++ X) := by
  refine CT.mk (cc := cX0_beSure) (maxL := 1) (ret := none) (own := RX0) (by decide) rfl rfl (Nat.le_of_ble_eq_true rfl) ?_
  intro p e s m args below meth c ls A Q hA hQ hC hr hk hW hl
  have hx := hC.1
  have hb := hC.2.1
  have hown := hC.2.2.2.1
  have hts := hC.2.2.2.2
  have hl : lv_has ls 1 [(0, .ref (ad 44))] := hl
  have f9 := hts _ (wu_in w_4_13)
  have i0 := (fun w h => wu_in (inc_0 w h) : ∀ w ∈ u_ws RX0 TX0 2, w ∈ (wu yX0_beSure cX0_beSure 1 none))
  have k19 := hts _ (wu_in w_29_19)
  have f15 := hts _ (wu_in w_4_14)
  unfold m_X0_beSure at h
  refine lv_aload_n hx hb dX0_beSure_0 rfl (lv_at hl 0 rfl) ?_
  refine wd_get hC i0 hW 44 wC_c44 rfl 0 (Nat.le_of_ble_eq_true rfl) f9 rfl rfl dX0_beSure_1 ?_
  refine lv_ldc hx hb hown k19 dX0_beSure_4 ?_
  refine wd_callS0 (As := [.ref (ad 45), .int 1000000]) hC hW (c_fill l D cy 45 (ad 45) 242 _ 1000000 wC_c45 (by decide) wC_f45) (va_cwS 2 hts (gu_S w_26_0 w_32_0 w_25_22 w_25_23) rfl rfl rfl hdJ7_fill_53178 ⟨Nat.le_of_ble_eq_true rfl, Nat.le_of_ble_eq_true rfl⟩) rfl hl.1 rfl (Nat.le_of_ble_eq_true rfl) ⟨Nat.zero_le _, Nat.zero_le _⟩ dX0_beSure_6 (fun H locs hW => ?_)
  obtain ⟨S1, e2, h⟩ := nm_of h
  replace hW := wq_S e2 hW
  refine lv_aload_n hx hb dX0_beSure_9 rfl (lv_at hl 0 rfl) ?_
  refine wd_get hC i0 hW 44 wC_c44 rfl 0 (Nat.le_of_ble_eq_true rfl) f9 rfl rfl dX0_beSure_10 ?_
  refine lv_iconst (v := 0) hx hb dX0_beSure_13 (by decide) ?_
  refine lv_iconst (v := 0) hx hb dX0_beSure_14 (by decide) ?_
  obtain ⟨hi3, h⟩ := ck_of h
  refine wd_iast hC hW 45 wC_c45 hi3 wC_t45 dX0_beSure_15 (fun H locs hW => ?_)
  obtain ⟨S4, e5, h⟩ := nm_of h
  replace hW := wq_S e5 hW
  refine lv_aload_n hx hb dX0_beSure_16 rfl (lv_at hl 0 rfl) ?_
  refine lv_iconst (v := 0) hx hb dX0_beSure_17 (by decide) ?_
  refine wd_put hC i0 tyX0_ok nmX0 hW 44 wC_c44 rfl 1 (Nat.le_of_ble_eq_true rfl) f15 rfl rfl rfl rfl (Nat.le_of_ble_eq_true rfl) wC_s44_1 dX0_beSure_18 (fun H locs hW => ?_)
  obtain ⟨S6, e7, h⟩ := nm_of h
  replace hW := wq_S e7 hW
  obtain rfl := Option.some.inj h
  exact wd_vret hA hQ hC hr hk hW dX0_beSure_21
def m_X0_timesBeat_L13 : Nat → St → Nat → Int32 → Int32 → Option (St)
  | 0, _, _, _, _ => none
  | n + 1, S, x2, x3, x4 =>
    if 122 ≤ (x4 + x3) then (some S) else (if 120 < x4 then (some S) else (ck x4 242 (ck (x4 + x3) 122 (ck x4 242 (nm (sA S 45 x4.toNatClampNeg (((((S.2.1 45 x4.toNatClampNeg).toInt64) * ((1000000 - (S.2.1 (52 + x2) (x4 + x3).toNatClampNeg)).toInt64)) / 1000000).toInt32)) (fun S11 => m_X0_timesBeat_L13 n S11 x2 x3 (x4 + 1)))))))
theorem m_X0_timesBeat_L13_0 (S : St) (x2 : Nat) (x3 : Int32) (x4 : Int32) : m_X0_timesBeat_L13 0 S x2 x3 x4 = none := rfl
theorem m_X0_timesBeat_L13_s {n : Nat} {S : St} {x2 : Nat} {x3 : Int32} {x4 : Int32} : m_X0_timesBeat_L13 (n + 1) S x2 x3 x4 =
    (if 122 ≤ (x4 + x3) then (some S) else (if 120 < x4 then (some S) else (ck x4 242 (ck (x4 + x3) 122 (ck x4 242 (nm (sA S 45 x4.toNatClampNeg (((((S.2.1 45 x4.toNatClampNeg).toInt64) * ((1000000 - (S.2.1 (52 + x2) (x4 + x3).toNatClampNeg)).toInt64)) / 1000000).toInt32)) (fun S11 => m_X0_timesBeat_L13 n S11 x2 x3 (x4 + 1)))))))) := rfl
def m_X0_timesBeat (n : Nat) (S : St) (p0 : Int32) (k1 : Nat) : Option (St) :=
  ((if p0 = 0 then (some 0) else (some 1) : Option (Int32))).bind (fun q2 => (m_X0_timesBeat_L13 n S k1 q2 1).bind (fun q4 => some q4))
set_option maxHeartbeats 4000000 in
set_option maxRecDepth 100000 in
theorem c_X0_timesBeat (l : Launch) (D : va_G) (cy : Nat → ClassId) (ad : Nat → Nat) (X : va_W) (n : Nat) (S : St) (p0 : Int32) (k1 : Nat) (r : (St)) (h : m_X0_timesBeat n S p0 k1 = some r) (hk1 : k1 < 6) : CT l yX0_timesBeat (wu yX0_timesBeat cX0_timesBeat 5 none) 0 D cy [.ref (ad 44), .int p0, .ref (ad (52 + k1))] (wC ad cy S ++ X) (none) (wC ad cy r ++ X) := by
  refine CT.mk (cc := cX0_timesBeat) (maxL := 5) (ret := none) (own := RX0) (by decide) rfl rfl (Nat.le_of_ble_eq_true rfl) ?_
  intro p e s m args below meth c ls A Q hA hQ hC hr hk hW hl
  have hx := hC.1
  have hb := hC.2.1
  have hown := hC.2.2.2.1
  have hts := hC.2.2.2.2
  have hl : lv_has ls 5 [(0, .ref (ad 44)), (1, .int p0), (2, .ref (ad (52 + k1)))] := hl
  have f9 := hts _ (wu_in w_4_13)
  have i0 := (fun w h => wu_in (inc_0 w h) : ∀ w ∈ u_ws RX0 TX0 2, w ∈ (wu yX0_timesBeat cX0_timesBeat 5 none))
  have k19 := hts _ (wu_in w_29_19)
  have k30 := hts _ (wu_in w_32_6)
  unfold m_X0_timesBeat at h
  refine lv_iload_n hx hb dX0_timesBeat_0 rfl (lv_at hl 1 rfl) ?_
  obtain ⟨q2, hq3, h⟩ := bd_of h
  have hJ9 : ∀ (H : Heap) (locs : List Loc) (ls : Array Slot), Wd D cy A s (wC ad cy S ++ X) H locs → lv_has ls 5 [(0, .ref (ad 44)), (1, .int p0), (2, .ref (ad (52 + k1)))] → W p l e (RM 0) s m args below meth c H locs 0 0 Q (F0 m 9 ls [.int q2]) := by
    intro H locs ls hW hl
    refine lv_istore_n (lv' := [(3, .int q2), (0, .ref (ad 44)), (1, .int p0), (2, .ref (ad (52 + k1)))]) hx hb dX0_timesBeat_9 rfl hl (by decide) rfl (fun ls hl => ?_)
    refine lv_iconst (v := 1) hx hb dX0_timesBeat_10 (by decide) ?_
    refine lv_istore (lv' := [(4, .int 1), (3, .int q2), (0, .ref (ad 44)), (1, .int p0), (2, .ref (ad (52 + k1)))]) hx hb dX0_timesBeat_11 hl (by decide) rfl (fun ls hl => ?_)
    have hL13 : ∀ (n : Nat) (S : St) (x2 : Nat) (x3 : Int32) (x4 : Int32) (hx2 : x2 < 6) (H : Heap) (locs : List Loc) (ls : Array Slot) (r : (St)), m_X0_timesBeat_L13 n S x2 x3 x4 = some r → Wd D cy A s (wC ad cy S ++ X) H locs → lv_has ls 5 [(0, .ref (ad 44)), (2, .ref (ad (52 + x2))), (3, .int x3), (4, .int x4)] → (∀ (H : Heap) (locs : List Loc) (ls : Array Slot), Wd D cy A s (wC ad cy r ++ X) H locs → lv_has ls 5 [(0, .ref (ad 44)), (2, .ref (ad (52 + x2))), (3, .int x3)] → W p l e (RM 0) s m args below meth c H locs 0 0 Q (F0 m 66 ls [])) → W p l e (RM 0) s m args below meth c H locs 0 0 Q (F0 m 13 ls []) := by
      intro n
      induction n with
      | zero =>
        intro S x2 x3 x4 hx2 H locs ls r h
        exact absurd (h.symm.trans (m_X0_timesBeat_L13_0 ..)) (by simp)
      | succ n ih =>
        intro S x2 x3 x4 hx2 H locs ls r h hW hl kk
        rw [m_X0_timesBeat_L13_s] at h
        refine lv_iload hx hb dX0_timesBeat_13 (lv_at hl 3 rfl) ?_
        refine lv_iload_n hx hb dX0_timesBeat_15 rfl (lv_at hl 2 rfl) ?_
        refine lv_iadd hx hb dX0_timesBeat_16 ?_
        refine lv_aload_n hx hb dX0_timesBeat_17 rfl (lv_at hl 1 rfl) ?_
        refine wd_alen hC hW (52 + x2) 0 (wG_ch hx2) rfl (v := 122) rfl dX0_timesBeat_18 ?_
        refine lv_icmp_ge (tgt := 66) hx hb dX0_timesBeat_19 (by decide) (fun c6 => ?_) (fun c6 => ?_)
        · replace h := ite_t h c6
          obtain rfl := Option.some.inj h
          exact kk _ _ _ hW (lv_sub hl [0, 1, 2] rfl)
        · replace h := ite_f h c6
          refine lv_iload hx hb dX0_timesBeat_22 (lv_at hl 3 rfl) ?_
          refine lv_bipush (v := 120) hx hb dX0_timesBeat_24 (by decide) ?_
          refine lv_icmp_gt (tgt := 66) hx hb dX0_timesBeat_26 (by decide) (fun c7 => ?_) (fun c7 => ?_)
          · replace h := ite_t h c7
            obtain rfl := Option.some.inj h
            exact kk _ _ _ hW (lv_sub hl [0, 1, 2] rfl)
          · replace h := ite_f h c7
            refine lv_aload_n hx hb dX0_timesBeat_29 rfl (lv_at hl 0 rfl) ?_
            refine wd_get hC i0 hW 44 wC_c44 rfl 0 (Nat.le_of_ble_eq_true rfl) f9 rfl rfl dX0_timesBeat_30 ?_
            refine lv_iload hx hb dX0_timesBeat_33 (lv_at hl 3 rfl) ?_
            refine lv_aload_n hx hb dX0_timesBeat_35 rfl (lv_at hl 0 rfl) ?_
            refine wd_get hC i0 hW 44 wC_c44 rfl 0 (Nat.le_of_ble_eq_true rfl) f9 rfl rfl dX0_timesBeat_36 ?_
            refine lv_iload hx hb dX0_timesBeat_39 (lv_at hl 3 rfl) ?_
            obtain ⟨hi8, h⟩ := ck_of h
            refine wd_iald hC hW 45 wC_c45 hi8 dX0_timesBeat_41 ?_
            refine lv_i2l (v := (S.2.1 45 x4.toNatClampNeg).toInt64) hx hb dX0_timesBeat_42 rfl ?_
            refine lv_ldc hx hb hown k19 dX0_timesBeat_43 ?_
            refine lv_aload_n hx hb dX0_timesBeat_45 rfl (lv_at hl 1 rfl) ?_
            refine lv_iload hx hb dX0_timesBeat_46 (lv_at hl 3 rfl) ?_
            refine lv_iload_n hx hb dX0_timesBeat_48 rfl (lv_at hl 2 rfl) ?_
            refine lv_iadd hx hb dX0_timesBeat_49 ?_
            obtain ⟨hi9, h⟩ := ck_of h
            refine wd_iald hC hW (52 + x2) (wG_ch hx2) hi9 dX0_timesBeat_50 ?_
            refine lv_isub hx hb dX0_timesBeat_51 ?_
            refine lv_i2l (v := (1000000 - (S.2.1 (52 + x2) (x4 + x3).toNatClampNeg)).toInt64) hx hb dX0_timesBeat_52 rfl ?_
            refine lv_lmul hx hb dX0_timesBeat_53 ?_
            refine lv_ldc2 hx hb hown k30 dX0_timesBeat_54 ?_
            refine lv_ldiv hx hb dX0_timesBeat_57 (by decide) ?_
            refine lv_l2i (v := ((((S.2.1 45 x4.toNatClampNeg).toInt64) * ((1000000 - (S.2.1 (52 + x2) (x4 + x3).toNatClampNeg)).toInt64)) / 1000000).toInt32) hx hb dX0_timesBeat_58 rfl ?_
            obtain ⟨hi10, h⟩ := ck_of h
            refine wd_iast hC hW 45 wC_c45 hi10 wC_t45 dX0_timesBeat_59 (fun H locs hW => ?_)
            obtain ⟨S11, e12, h⟩ := nm_of h
            replace hW := wq_S e12 hW
            refine lv_iinc (v := x4 + 1) (lv' := [(4, .int (x4 + 1)), (0, .ref (ad 44)), (2, .ref (ad (52 + x2))), (3, .int x3)]) hx hb dX0_timesBeat_60 hl (k := 3) rfl rfl (by decide) rfl (fun ls hl => ?_)
            refine lv_goto (tgt := 13) hx hb dX0_timesBeat_63 (by decide) ?_
            exact ih S11 x2 x3 (x4 + 1) hx2 _ _ _ r h hW (lv_sub hl [1, 2, 3, 0] rfl) kk
    obtain ⟨q4, hq5, h⟩ := bd_of h
    refine hL13 n S k1 q2 1 hk1 _ _ _ q4 hq5 hW (lv_sub hl [2, 4, 1, 0] rfl) (fun H locs ls hW hl => ?_)
    obtain rfl := Option.some.inj h
    exact wd_vret hA hQ hC hr hk hW dX0_timesBeat_66
  replace h := hq3
  refine lv_if_eq (tgt := 8) hx hb dX0_timesBeat_1 (by decide) (fun c1 => ?_) (fun c1 => ?_)
  · replace h := ite_t h c1
    refine lv_iconst (v := 0) hx hb dX0_timesBeat_8 (by decide) ?_
    obtain rfl := Option.some.inj h
    exact hJ9 _ _ _ hW (lv_sub hl [0, 1, 2] rfl)
  · replace h := ite_f h c1
    refine lv_iconst (v := 1) hx hb dX0_timesBeat_4 (by decide) ?_
    refine lv_goto (tgt := 9) hx hb dX0_timesBeat_5 (by decide) ?_
    obtain rfl := Option.some.inj h
    exact hJ9 _ _ _ hW (lv_sub hl [0, 1, 2] rfl)
def m_X7_append_L19 : Nat → St → Int32 → Int32 → Option (St)
  | 0, _, _, _ => none
  | n + 1, S, x1, x2 =>
    if x2 < 0 then (some S) else (ck (S.1 1) 240 (nm (sA S 2 (S.1 1).toNatClampNeg (i2c ((usr x1 x2) &&& 255))) (fun S6 => nm (sI S6 1 ((S6.1 1) + 1)) (fun S8 => m_X7_append_L19 n S8 x1 (x2 + (-8))))))
theorem m_X7_append_L19_0 (S : St) (x1 : Int32) (x2 : Int32) : m_X7_append_L19 0 S x1 x2 = none := rfl
theorem m_X7_append_L19_s {n : Nat} {S : St} {x1 : Int32} {x2 : Int32} : m_X7_append_L19 (n + 1) S x1 x2 =
    (if x2 < 0 then (some S) else (ck (S.1 1) 240 (nm (sA S 2 (S.1 1).toNatClampNeg (i2c ((usr x1 x2) &&& 255))) (fun S6 => nm (sI S6 1 ((S6.1 1) + 1)) (fun S8 => m_X7_append_L19 n S8 x1 (x2 + (-8))))))) := rfl
def m_X7_append (n : Nat) (S : St) (p0 : Int32) : Option (Int32 × St) :=
  if ((S.1 1) + 4) ≤ 240 then ((m_X7_append_L19 n S p0 24).bind (fun q2 => some (1, q2))) else (some (0, S))
set_option maxHeartbeats 4000000 in
set_option maxRecDepth 100000 in
theorem c_X7_append (l : Launch) (D : va_G) (cy : Nat → ClassId) (ad : Nat → Nat) (X : va_W) (n : Nat) (S : St) (p0 : Int32) (r : (Int32 × St)) (h : m_X7_append n S p0 = some r) : CT l yX7_append (wu yX7_append cX7_append 3 (some .boolean)) 0 D cy [.ref (ad 1), .int p0] (wC ad cy S ++ X) (some (.int r.1)) (wC ad cy r.2 ++ X) := by
  refine CT.mk (cc := cX7_append) (maxL := 3) (ret := (some .boolean)) (own := RX7) (by decide) rfl rfl (Nat.le_of_ble_eq_true rfl) ?_
  intro p e s m args below meth c ls A Q hA hQ hC hr hk hW hl
  have hx := hC.1
  have hb := hC.2.1
  have hown := hC.2.2.2.1
  have hts := hC.2.2.2.2
  have hl : lv_has ls 3 [(0, .ref (ad 1)), (1, .int p0)] := hl
  have f15 := hts _ (wu_in w_3_2)
  have i7 := (fun w h => wu_in (inc_7 w h) : ∀ w ∈ u_ws RX7 TX7 4, w ∈ (wu yX7_append cX7_append 3 (some .boolean)))
  have f9 := hts _ (wu_in w_3_1)
  unfold m_X7_append at h
  refine lv_aload_n hx hb dX7_append_0 rfl (lv_at hl 0 rfl) ?_
  refine wd_get hC i7 hW 1 wC_c1 rfl 1 (Nat.le_of_ble_eq_true rfl) f15 rfl rfl dX7_append_1 ?_
  refine lv_iconst (v := 4) hx hb dX7_append_4 (by decide) ?_
  refine lv_iadd hx hb dX7_append_5 ?_
  refine lv_aload_n hx hb dX7_append_6 rfl (lv_at hl 0 rfl) ?_
  refine wd_get hC i7 hW 1 wC_c1 rfl 0 (Nat.le_of_ble_eq_true rfl) f9 rfl rfl dX7_append_7 ?_
  refine wd_alen hC hW 2 2 wC_c2 rfl (v := 240) rfl dX7_append_10 ?_
  refine lv_icmp_le (tgt := 16) hx hb dX7_append_11 (by decide) (fun c1 => ?_) (fun c1 => ?_)
  · replace h := ite_t h c1
    refine lv_bipush (v := 24) hx hb dX7_append_16 (by decide) ?_
    refine lv_istore_n (lv' := [(2, .int 24), (0, .ref (ad 1)), (1, .int p0)]) hx hb dX7_append_18 rfl hl (by decide) rfl (fun ls hl => ?_)
    have hL19 : ∀ (n : Nat) (S : St) (x1 : Int32) (x2 : Int32)  (H : Heap) (locs : List Loc) (ls : Array Slot) (r : (St)), m_X7_append_L19 n S x1 x2 = some r → Wd D cy A s (wC ad cy S ++ X) H locs → lv_has ls 3 [(0, .ref (ad 1)), (1, .int x1), (2, .int x2)] → (∀ (H : Heap) (locs : List Loc) (ls : Array Slot), Wd D cy A s (wC ad cy r ++ X) H locs → lv_has ls 3 [(0, .ref (ad 1)), (1, .int x1)] → W p l e (RM 0) s m args below meth c H locs 0 0 Q (F0 m 56 ls [])) → W p l e (RM 0) s m args below meth c H locs 0 0 Q (F0 m 19 ls []) := by
      intro n
      induction n with
      | zero =>
        intro S x1 x2  H locs ls r h
        exact absurd (h.symm.trans (m_X7_append_L19_0 ..)) (by simp)
      | succ n ih =>
        intro S x1 x2  H locs ls r h hW hl kk
        rw [m_X7_append_L19_s] at h
        refine lv_iload_n hx hb dX7_append_19 rfl (lv_at hl 2 rfl) ?_
        refine lv_if_lt (tgt := 56) hx hb dX7_append_20 (by decide) (fun c4 => ?_) (fun c4 => ?_)
        · replace h := ite_t h c4
          obtain rfl := Option.some.inj h
          exact kk _ _ _ hW (lv_sub hl [0, 1] rfl)
        · replace h := ite_f h c4
          refine lv_aload_n hx hb dX7_append_23 rfl (lv_at hl 0 rfl) ?_
          refine wd_get hC i7 hW 1 wC_c1 rfl 0 (Nat.le_of_ble_eq_true rfl) f9 rfl rfl dX7_append_24 ?_
          refine lv_aload_n hx hb dX7_append_27 rfl (lv_at hl 0 rfl) ?_
          refine wd_get hC i7 hW 1 wC_c1 rfl 1 (Nat.le_of_ble_eq_true rfl) f15 rfl rfl dX7_append_28 ?_
          refine lv_iload_n hx hb dX7_append_31 rfl (lv_at hl 1 rfl) ?_
          refine lv_iload_n hx hb dX7_append_32 rfl (lv_at hl 2 rfl) ?_
          refine lv_iushr (v := usr x1 x2) hx hb dX7_append_33 rfl ?_
          refine lv_sipush (v := 255) hx hb dX7_append_34 (by decide) ?_
          refine lv_iand hx hb dX7_append_37 ?_
          refine lv_i2c (v := i2c ((usr x1 x2) &&& 255)) hx hb dX7_append_38 rfl ?_
          obtain ⟨hi5, h⟩ := ck_of h
          refine wd_cast hC hW 2 wC_c2 hi5 (pk_vc _) wC_t2 dX7_append_39 (fun H locs hW => ?_)
          obtain ⟨S6, e7, h⟩ := nm_of h
          replace hW := wq_S e7 hW
          refine lv_aload_n hx hb dX7_append_40 rfl (lv_at hl 0 rfl) ?_
          refine lv_dup hx hb dX7_append_41 rfl ?_
          refine wd_get hC i7 hW 1 wC_c1 rfl 1 (Nat.le_of_ble_eq_true rfl) f15 rfl rfl dX7_append_42 ?_
          refine lv_iconst (v := 1) hx hb dX7_append_45 (by decide) ?_
          refine lv_iadd hx hb dX7_append_46 ?_
          refine wd_put hC i7 tyX7_ok nmX7 hW 1 wC_c1 rfl 1 (Nat.le_of_ble_eq_true rfl) f15 rfl rfl rfl rfl (Nat.le_of_ble_eq_true rfl) wC_s1_1 dX7_append_47 (fun H locs hW => ?_)
          obtain ⟨S8, e9, h⟩ := nm_of h
          replace hW := wq_S e9 hW
          refine lv_iinc (v := x2 + (-8)) (lv' := [(2, .int (x2 + (-8))), (0, .ref (ad 1)), (1, .int x1)]) hx hb dX7_append_50 hl (k := 2) rfl rfl (by decide) rfl (fun ls hl => ?_)
          refine lv_goto (tgt := 19) hx hb dX7_append_53 (by decide) ?_
          exact ih S8 x1 (x2 + (-8)) _ _ _ r h hW (lv_sub hl [1, 2, 0] rfl) kk
    obtain ⟨q2, hq3, h⟩ := bd_of h
    refine hL19 n S p0 24  _ _ _ q2 hq3 hW (lv_sub hl [1, 2, 0] rfl) (fun H locs ls hW hl => ?_)
    refine lv_iconst (v := 1) hx hb dX7_append_56 (by decide) ?_
    obtain rfl := Option.some.inj h
    exact wd_zret hA hQ hC hr hk hW rfl dX7_append_57
  · replace h := ite_f h c1
    refine lv_iconst (v := 0) hx hb dX7_append_14 (by decide) ?_
    obtain rfl := Option.some.inj h
    exact wd_zret hA hQ hC hr hk hW rfl dX7_append_15
def m_X7_shorten (S : St) (p0 : Int32) : Option (Int32 × St) :=
  if p0 < 0 then (some (0, S)) else (if p0 ≤ (S.1 1) then (nm (sI S 1 p0) (fun S3 => some (1, S3))) else (some (0, S)))
set_option maxHeartbeats 4000000 in
set_option maxRecDepth 100000 in
theorem c_X7_shorten (l : Launch) (D : va_G) (cy : Nat → ClassId) (ad : Nat → Nat) (X : va_W) (S : St) (p0 : Int32) (r : (Int32 × St)) (h : m_X7_shorten S p0 = some r) : CT l yX7_shorten (wu yX7_shorten cX7_shorten 2 (some .boolean)) 0 D cy [.ref (ad 1), .int p0] (wC ad cy S ++ X) (some (.int r.1)) (wC ad cy r.2 ++ X) := by
  refine CT.mk (cc := cX7_shorten) (maxL := 2) (ret := (some .boolean)) (own := RX7) (by decide) rfl rfl (Nat.le_of_ble_eq_true rfl) ?_
  intro p e s m args below meth c ls A Q hA hQ hC hr hk hW hl
  have hx := hC.1
  have hb := hC.2.1
  have hown := hC.2.2.2.1
  have hts := hC.2.2.2.2
  have hl : lv_has ls 2 [(0, .ref (ad 1)), (1, .int p0)] := hl
  have f15 := hts _ (wu_in w_3_2)
  have i7 := (fun w h => wu_in (inc_7 w h) : ∀ w ∈ u_ws RX7 TX7 4, w ∈ (wu yX7_shorten cX7_shorten 2 (some .boolean)))
  unfold m_X7_shorten at h
  refine lv_iload_n hx hb dX7_shorten_0 rfl (lv_at hl 1 rfl) ?_
  refine lv_if_lt (tgt := 12) hx hb dX7_shorten_1 (by decide) (fun c1 => ?_) (fun c1 => ?_)
  · replace h := ite_t h c1
    refine lv_iconst (v := 0) hx hb dX7_shorten_12 (by decide) ?_
    obtain rfl := Option.some.inj h
    exact wd_zret hA hQ hC hr hk hW rfl dX7_shorten_13
  · replace h := ite_f h c1
    refine lv_iload_n hx hb dX7_shorten_4 rfl (lv_at hl 1 rfl) ?_
    refine lv_aload_n hx hb dX7_shorten_5 rfl (lv_at hl 0 rfl) ?_
    refine wd_get hC i7 hW 1 wC_c1 rfl 1 (Nat.le_of_ble_eq_true rfl) f15 rfl rfl dX7_shorten_6 ?_
    refine lv_icmp_le (tgt := 14) hx hb dX7_shorten_9 (by decide) (fun c2 => ?_) (fun c2 => ?_)
    · replace h := ite_t h c2
      refine lv_aload_n hx hb dX7_shorten_14 rfl (lv_at hl 0 rfl) ?_
      refine lv_iload_n hx hb dX7_shorten_15 rfl (lv_at hl 1 rfl) ?_
      refine wd_put hC i7 tyX7_ok nmX7 hW 1 wC_c1 rfl 1 (Nat.le_of_ble_eq_true rfl) f15 rfl rfl rfl rfl (Nat.le_of_ble_eq_true rfl) wC_s1_1 dX7_shorten_16 (fun H locs hW => ?_)
      obtain ⟨S3, e4, h⟩ := nm_of h
      replace hW := wq_S e4 hW
      refine lv_iconst (v := 1) hx hb dX7_shorten_19 (by decide) ?_
      obtain rfl := Option.some.inj h
      exact wd_zret hA hQ hC hr hk hW rfl dX7_shorten_20
    · replace h := ite_f h c2
      refine lv_iconst (v := 0) hx hb dX7_shorten_12 (by decide) ?_
      obtain rfl := Option.some.inj h
      exact wd_zret hA hQ hC hr hk hW rfl dX7_shorten_13
def m_X7_isDigit (S : St) (p0 : Int32) : Option (Int32) :=
  if p0 < 48 then (some 0) else (if 57 < p0 then (some 0) else (some 1))
set_option maxHeartbeats 4000000 in
set_option maxRecDepth 100000 in
theorem c_X7_isDigit (l : Launch) (D : va_G) (cy : Nat → ClassId) (ad : Nat → Nat) (X : va_W) (S : St) (p0 : Int32) (r : (Int32)) (h : m_X7_isDigit S p0 = some r) : CT l yX7_isDigit (wu yX7_isDigit cX7_isDigit 1 (some .boolean)) 0 D cy [.int p0] (wC ad cy S ++ X) (some (.int r)) (wC ad cy S ++ X) := by
  refine CT.mk (cc := cX7_isDigit) (maxL := 1) (ret := (some .boolean)) (own := RX7) (by decide) rfl rfl (Nat.le_of_ble_eq_true rfl) ?_
  intro p e s m args below meth c ls A Q hA hQ hC hr hk hW hl
  have hx := hC.1
  have hb := hC.2.1
  have hown := hC.2.2.2.1
  have hts := hC.2.2.2.2
  have hl : lv_has ls 1 [(0, .int p0)] := hl
  unfold m_X7_isDigit at h
  refine lv_iload_n hx hb dX7_isDigit_0 rfl (lv_at hl 0 rfl) ?_
  refine lv_bipush (v := 48) hx hb dX7_isDigit_1 (by decide) ?_
  refine lv_icmp_lt (tgt := 16) hx hb dX7_isDigit_3 (by decide) (fun c1 => ?_) (fun c1 => ?_)
  · replace h := ite_t h c1
    refine lv_iconst (v := 0) hx hb dX7_isDigit_16 (by decide) ?_
    obtain rfl := Option.some.inj h
    exact wd_zret hA hQ hC hr hk hW rfl dX7_isDigit_17
  · replace h := ite_f h c1
    refine lv_iload_n hx hb dX7_isDigit_6 rfl (lv_at hl 0 rfl) ?_
    refine lv_bipush (v := 57) hx hb dX7_isDigit_7 (by decide) ?_
    refine lv_icmp_gt (tgt := 16) hx hb dX7_isDigit_9 (by decide) (fun c2 => ?_) (fun c2 => ?_)
    · replace h := ite_t h c2
      refine lv_iconst (v := 0) hx hb dX7_isDigit_16 (by decide) ?_
      obtain rfl := Option.some.inj h
      exact wd_zret hA hQ hC hr hk hW rfl dX7_isDigit_17
    · replace h := ite_f h c2
      refine lv_iconst (v := 1) hx hb dX7_isDigit_12 (by decide) ?_
      refine lv_goto (tgt := 17) hx hb dX7_isDigit_13 (by decide) ?_
      obtain rfl := Option.some.inj h
      exact wd_zret hA hQ hC hr hk hW rfl dX7_isDigit_17
def m_X7_readSign (S : St) (p0 : Int32) : Option (St) :=
  if (S.1 3) < 0 then (if (S.1 1) ≤ (S.1 2) then (nm (sI S 3 (S.1 2)) (fun S3 => some S3)) else (ck (S.1 2) 240 (if (S.2.1 2 (S.1 2).toNatClampNeg) = p0 then (nm (sI S 2 ((S.1 2) + 1)) (fun S7 => some S7)) else (nm (sI S 3 (S.1 2)) (fun S9 => some S9))))) else (some S)
set_option maxHeartbeats 4000000 in
set_option maxRecDepth 100000 in
theorem c_X7_readSign (l : Launch) (D : va_G) (cy : Nat → ClassId) (ad : Nat → Nat) (X : va_W) (S : St) (p0 : Int32) (r : (St)) (h : m_X7_readSign S p0 = some r) : CT l yX7_readSign (wu yX7_readSign cX7_readSign 2 none) 0 D cy [.ref (ad 1), .int p0] (wC ad cy S ++ X) (none) (wC ad cy r ++ X) := by
  refine CT.mk (cc := cX7_readSign) (maxL := 2) (ret := none) (own := RX7) (by decide) rfl rfl (Nat.le_of_ble_eq_true rfl) ?_
  intro p e s m args below meth c ls A Q hA hQ hC hr hk hW hl
  have hx := hC.1
  have hb := hC.2.1
  have hown := hC.2.2.2.1
  have hts := hC.2.2.2.2
  have hl : lv_has ls 2 [(0, .ref (ad 1)), (1, .int p0)] := hl
  have f22 := hts _ (wu_in w_3_4)
  have i7 := (fun w h => wu_in (inc_7 w h) : ∀ w ∈ u_ws RX7 TX7 4, w ∈ (wu yX7_readSign cX7_readSign 2 none))
  have f19 := hts _ (wu_in w_3_3)
  have f15 := hts _ (wu_in w_3_2)
  have f9 := hts _ (wu_in w_3_1)
  unfold m_X7_readSign at h
  refine lv_aload_n hx hb dX7_readSign_0 rfl (lv_at hl 0 rfl) ?_
  refine wd_get hC i7 hW 1 wC_c1 rfl 3 (Nat.le_of_ble_eq_true rfl) f22 rfl rfl dX7_readSign_1 ?_
  refine lv_if_lt (tgt := 8) hx hb dX7_readSign_4 (by decide) (fun c1 => ?_) (fun c1 => ?_)
  · replace h := ite_t h c1
    refine lv_aload_n hx hb dX7_readSign_8 rfl (lv_at hl 0 rfl) ?_
    refine wd_get hC i7 hW 1 wC_c1 rfl 2 (Nat.le_of_ble_eq_true rfl) f19 rfl rfl dX7_readSign_9 ?_
    refine lv_aload_n hx hb dX7_readSign_12 rfl (lv_at hl 0 rfl) ?_
    refine wd_get hC i7 hW 1 wC_c1 rfl 1 (Nat.le_of_ble_eq_true rfl) f15 rfl rfl dX7_readSign_13 ?_
    refine lv_icmp_ge (tgt := 32) hx hb dX7_readSign_16 (by decide) (fun c2 => ?_) (fun c2 => ?_)
    · replace h := ite_t h c2
      refine lv_aload_n hx hb dX7_readSign_32 rfl (lv_at hl 0 rfl) ?_
      refine lv_aload_n hx hb dX7_readSign_33 rfl (lv_at hl 0 rfl) ?_
      refine wd_get hC i7 hW 1 wC_c1 rfl 2 (Nat.le_of_ble_eq_true rfl) f19 rfl rfl dX7_readSign_34 ?_
      refine wd_put hC i7 tyX7_ok nmX7 hW 1 wC_c1 rfl 3 (Nat.le_of_ble_eq_true rfl) f22 rfl rfl rfl rfl (Nat.le_of_ble_eq_true rfl) wC_s1_3 dX7_readSign_37 (fun H locs hW => ?_)
      obtain ⟨S3, e4, h⟩ := nm_of h
      replace hW := wq_S e4 hW
      obtain rfl := Option.some.inj h
      exact wd_vret hA hQ hC hr hk hW dX7_readSign_40
    · replace h := ite_f h c2
      refine lv_aload_n hx hb dX7_readSign_19 rfl (lv_at hl 0 rfl) ?_
      refine wd_get hC i7 hW 1 wC_c1 rfl 0 (Nat.le_of_ble_eq_true rfl) f9 rfl rfl dX7_readSign_20 ?_
      refine lv_aload_n hx hb dX7_readSign_23 rfl (lv_at hl 0 rfl) ?_
      refine wd_get hC i7 hW 1 wC_c1 rfl 2 (Nat.le_of_ble_eq_true rfl) f19 rfl rfl dX7_readSign_24 ?_
      obtain ⟨hi5, h⟩ := ck_of h
      refine wd_cald hC hW 2 wC_c2 hi5 dX7_readSign_27 ?_
      refine lv_iload_n hx hb dX7_readSign_28 rfl (lv_at hl 1 rfl) ?_
      refine lv_icmp_eq (tgt := 41) hx hb dX7_readSign_29 (by decide) (fun c6 => ?_) (fun c6 => ?_)
      · replace h := ite_t h c6
        refine lv_aload_n hx hb dX7_readSign_41 rfl (lv_at hl 0 rfl) ?_
        refine lv_dup hx hb dX7_readSign_42 rfl ?_
        refine wd_get hC i7 hW 1 wC_c1 rfl 2 (Nat.le_of_ble_eq_true rfl) f19 rfl rfl dX7_readSign_43 ?_
        refine lv_iconst (v := 1) hx hb dX7_readSign_46 (by decide) ?_
        refine lv_iadd hx hb dX7_readSign_47 ?_
        refine wd_put hC i7 tyX7_ok nmX7 hW 1 wC_c1 rfl 2 (Nat.le_of_ble_eq_true rfl) f19 rfl rfl rfl rfl (Nat.le_of_ble_eq_true rfl) wC_s1_2 dX7_readSign_48 (fun H locs hW => ?_)
        obtain ⟨S7, e8, h⟩ := nm_of h
        replace hW := wq_S e8 hW
        obtain rfl := Option.some.inj h
        exact wd_vret hA hQ hC hr hk hW dX7_readSign_51
      · replace h := ite_f h c6
        refine lv_aload_n hx hb dX7_readSign_32 rfl (lv_at hl 0 rfl) ?_
        refine lv_aload_n hx hb dX7_readSign_33 rfl (lv_at hl 0 rfl) ?_
        refine wd_get hC i7 hW 1 wC_c1 rfl 2 (Nat.le_of_ble_eq_true rfl) f19 rfl rfl dX7_readSign_34 ?_
        refine wd_put hC i7 tyX7_ok nmX7 hW 1 wC_c1 rfl 3 (Nat.le_of_ble_eq_true rfl) f22 rfl rfl rfl rfl (Nat.le_of_ble_eq_true rfl) wC_s1_3 dX7_readSign_37 (fun H locs hW => ?_)
        obtain ⟨S9, e10, h⟩ := nm_of h
        replace hW := wq_S e10 hW
        obtain rfl := Option.some.inj h
        exact wd_vret hA hQ hC hr hk hW dX7_readSign_40
  · replace h := ite_f h c1
    obtain rfl := Option.some.inj h
    exact wd_vret hA hQ hC hr hk hW dX7_readSign_7
def m_X7_readNumber_L17 : Nat → St → Int32 → Int32 → Int32 → Int32 → Option (St × Int32)
  | 0, _, _, _, _, _ => none
  | n + 1, S, x1, x2, x3, x4 =>
    if (S.1 1) ≤ (S.1 2) then (some (S, x4)) else (if (x3 + 4) ≤ (S.1 2) then (some (S, x4)) else (ck (S.1 2) 240 ((m_X7_isDigit S (S.2.1 2 (S.1 2).toNatClampNeg)).bind (fun r7 => if r7 = 0 then (some (S, x4)) else (if (S.1 2) = (x3 + 1) then (if x4 = 0 then (some (S, x4)) else (ck (S.1 2) 240 (nm (((x4 * 10) + (S.2.1 2 (S.1 2).toNatClampNeg)) - 48) (fun v18 => nm (sI S 2 ((S.1 2) + 1)) (fun S20 => m_X7_readNumber_L17 n S20 x1 x2 x3 v18))))) else (ck (S.1 2) 240 (nm (((x4 * 10) + (S.2.1 2 (S.1 2).toNatClampNeg)) - 48) (fun v12 => nm (sI S 2 ((S.1 2) + 1)) (fun S14 => m_X7_readNumber_L17 n S14 x1 x2 x3 v12)))))))))
theorem m_X7_readNumber_L17_0 (S : St) (x1 : Int32) (x2 : Int32) (x3 : Int32) (x4 : Int32) : m_X7_readNumber_L17 0 S x1 x2 x3 x4 = none := rfl
theorem m_X7_readNumber_L17_s {n : Nat} {S : St} {x1 : Int32} {x2 : Int32} {x3 : Int32} {x4 : Int32} : m_X7_readNumber_L17 (n + 1) S x1 x2 x3 x4 =
    (if (S.1 1) ≤ (S.1 2) then (some (S, x4)) else (if (x3 + 4) ≤ (S.1 2) then (some (S, x4)) else (ck (S.1 2) 240 ((m_X7_isDigit S (S.2.1 2 (S.1 2).toNatClampNeg)).bind (fun r7 => if r7 = 0 then (some (S, x4)) else (if (S.1 2) = (x3 + 1) then (if x4 = 0 then (some (S, x4)) else (ck (S.1 2) 240 (nm (((x4 * 10) + (S.2.1 2 (S.1 2).toNatClampNeg)) - 48) (fun v18 => nm (sI S 2 ((S.1 2) + 1)) (fun S20 => m_X7_readNumber_L17 n S20 x1 x2 x3 v18))))) else (ck (S.1 2) 240 (nm (((x4 * 10) + (S.2.1 2 (S.1 2).toNatClampNeg)) - 48) (fun v12 => nm (sI S 2 ((S.1 2) + 1)) (fun S14 => m_X7_readNumber_L17 n S14 x1 x2 x3 v12)))))))))) := rfl
def m_X7_readNumber (n : Nat) (S : St) (p0 : Int32) (p1 : Int32) : Option (Int32 × St) :=
  if (S.1 3) < 0 then ((m_X7_readNumber_L17 n S p0 p1 (S.1 2) 0).bind (fun q2 => if (q2.1.1 2) = (S.1 2) then (nm (sI q2.1 3 (q2.1.1 2)) (fun S29 => some (q2.2, S29))) else (if q2.2 < p0 then (nm (sI q2.1 3 ((q2.1.1 2) - 1)) (fun S24 => some (q2.2, S24))) else (if q2.2 ≤ p1 then (some (q2.2, q2.1)) else (nm (sI q2.1 3 ((q2.1.1 2) - 1)) (fun S27 => some (q2.2, S27))))))) else (some (0, S))
set_option maxHeartbeats 4000000 in
set_option maxRecDepth 100000 in
theorem c_X7_readNumber (l : Launch) (D : va_G) (cy : Nat → ClassId) (ad : Nat → Nat) (X : va_W) (n : Nat) (S : St) (p0 : Int32) (p1 : Int32) (r : (Int32 × St)) (h : m_X7_readNumber n S p0 p1 = some r) : CT l yX7_readNumber (wu yX7_readNumber cX7_readNumber 5 (some .int)) 1 D cy [.ref (ad 1), .int p0, .int p1] (wC ad cy S ++ X) (some (.int r.1)) (wC ad cy r.2 ++ X) := by
  refine CT.mk (cc := cX7_readNumber) (maxL := 5) (ret := (some .int)) (own := RX7) (by decide) rfl rfl (Nat.le_of_ble_eq_true rfl) ?_
  intro p e s m args below meth c ls A Q hA hQ hC hr hk hW hl
  have hx := hC.1
  have hb := hC.2.1
  have hown := hC.2.2.2.1
  have hts := hC.2.2.2.2
  have hl : lv_has ls 5 [(0, .ref (ad 1)), (1, .int p0), (2, .int p1)] := hl
  have f22 := hts _ (wu_in w_3_4)
  have i7 := (fun w h => wu_in (inc_7 w h) : ∀ w ∈ u_ws RX7 TX7 4, w ∈ (wu yX7_readNumber cX7_readNumber 5 (some .int)))
  have f19 := hts _ (wu_in w_3_3)
  have f15 := hts _ (wu_in w_3_2)
  have f9 := hts _ (wu_in w_3_1)
  unfold m_X7_readNumber at h
  refine lv_aload_n hx hb dX7_readNumber_0 rfl (lv_at hl 0 rfl) ?_
  refine wd_get hC i7 hW 1 wC_c1 rfl 3 (Nat.le_of_ble_eq_true rfl) f22 rfl rfl dX7_readNumber_1 ?_
  refine lv_if_lt (tgt := 9) hx hb dX7_readNumber_4 (by decide) (fun c1 => ?_) (fun c1 => ?_)
  · replace h := ite_t h c1
    refine lv_aload_n hx hb dX7_readNumber_9 rfl (lv_at hl 0 rfl) ?_
    refine wd_get hC i7 hW 1 wC_c1 rfl 2 (Nat.le_of_ble_eq_true rfl) f19 rfl rfl dX7_readNumber_10 ?_
    refine lv_istore_n (lv' := [(3, .int (S.1 2)), (0, .ref (ad 1)), (1, .int p0), (2, .int p1)]) hx hb dX7_readNumber_13 rfl hl (by decide) rfl (fun ls hl => ?_)
    refine lv_iconst (v := 0) hx hb dX7_readNumber_14 (by decide) ?_
    refine lv_istore (lv' := [(4, .int 0), (3, .int (S.1 2)), (0, .ref (ad 1)), (1, .int p0), (2, .int p1)]) hx hb dX7_readNumber_15 hl (by decide) rfl (fun ls hl => ?_)
    have hL17 : ∀ (n : Nat) (S : St) (x1 : Int32) (x2 : Int32) (x3 : Int32) (x4 : Int32)  (H : Heap) (locs : List Loc) (ls : Array Slot) (r : (St × Int32)), m_X7_readNumber_L17 n S x1 x2 x3 x4 = some r → Wd D cy A s (wC ad cy S ++ X) H locs → lv_has ls 5 [(0, .ref (ad 1)), (1, .int x1), (2, .int x2), (3, .int x3), (4, .int x4)] → (∀ (H : Heap) (locs : List Loc) (ls : Array Slot), Wd D cy A s (wC ad cy r.1 ++ X) H locs → lv_has ls 5 [(0, .ref (ad 1)), (1, .int x1), (2, .int x2), (3, .int x3), (4, .int r.2)] → W p l e (RM 1) s m args below meth c H locs 0 0 Q (F0 m 101 ls [])) → W p l e (RM 1) s m args below meth c H locs 0 0 Q (F0 m 17 ls []) := by
      intro n
      induction n with
      | zero =>
        intro S x1 x2 x3 x4  H locs ls r h
        exact absurd (h.symm.trans (m_X7_readNumber_L17_0 ..)) (by simp)
      | succ n ih =>
        intro S x1 x2 x3 x4  H locs ls r h hW hl kk
        rw [m_X7_readNumber_L17_s] at h
        refine lv_aload_n hx hb dX7_readNumber_17 rfl (lv_at hl 0 rfl) ?_
        refine wd_get hC i7 hW 1 wC_c1 rfl 2 (Nat.le_of_ble_eq_true rfl) f19 rfl rfl dX7_readNumber_18 ?_
        refine lv_aload_n hx hb dX7_readNumber_21 rfl (lv_at hl 0 rfl) ?_
        refine wd_get hC i7 hW 1 wC_c1 rfl 1 (Nat.le_of_ble_eq_true rfl) f15 rfl rfl dX7_readNumber_22 ?_
        refine lv_icmp_ge (tgt := 101) hx hb dX7_readNumber_25 (by decide) (fun c4 => ?_) (fun c4 => ?_)
        · replace h := ite_t h c4
          obtain rfl := Option.some.inj h
          exact kk _ _ _ hW (lv_sub hl [0, 1, 2, 3, 4] rfl)
        · replace h := ite_f h c4
          refine lv_aload_n hx hb dX7_readNumber_28 rfl (lv_at hl 0 rfl) ?_
          refine wd_get hC i7 hW 1 wC_c1 rfl 2 (Nat.le_of_ble_eq_true rfl) f19 rfl rfl dX7_readNumber_29 ?_
          refine lv_iload_n hx hb dX7_readNumber_32 rfl (lv_at hl 3 rfl) ?_
          refine lv_iconst (v := 4) hx hb dX7_readNumber_33 (by decide) ?_
          refine lv_iadd hx hb dX7_readNumber_34 ?_
          refine lv_icmp_ge (tgt := 101) hx hb dX7_readNumber_35 (by decide) (fun c5 => ?_) (fun c5 => ?_)
          · replace h := ite_t h c5
            obtain rfl := Option.some.inj h
            exact kk _ _ _ hW (lv_sub hl [0, 1, 2, 3, 4] rfl)
          · replace h := ite_f h c5
            refine lv_aload_n hx hb dX7_readNumber_38 rfl (lv_at hl 0 rfl) ?_
            refine wd_get hC i7 hW 1 wC_c1 rfl 0 (Nat.le_of_ble_eq_true rfl) f9 rfl rfl dX7_readNumber_39 ?_
            refine lv_aload_n hx hb dX7_readNumber_42 rfl (lv_at hl 0 rfl) ?_
            refine wd_get hC i7 hW 1 wC_c1 rfl 2 (Nat.le_of_ble_eq_true rfl) f19 rfl rfl dX7_readNumber_43 ?_
            obtain ⟨hi6, h⟩ := ck_of h
            refine wd_cald hC hW 2 wC_c2 hi6 dX7_readNumber_46 ?_
            obtain ⟨r7, hr8, h⟩ := bd_of h
            refine wd_callS1 (As := [.int (S.2.1 2 (S.1 2).toNatClampNeg)]) hC hW (c_X7_isDigit l D cy ad X S (S.2.1 2 (S.1 2).toNatClampNeg) r7 hr8) (va_cwS 1 hts (gu_S w_8_1 w_7_23 w_8_0 w_1_15) rfl rfl rfl hdX7_isDigit ⟨Nat.le_of_ble_eq_true rfl, Nat.le_of_ble_eq_true rfl⟩) rfl hl.1 rfl (Nat.le_of_ble_eq_true rfl) ⟨Nat.zero_le _, Nat.zero_le _⟩ dX7_readNumber_47 (fun H locs hW => ?_)
            refine lv_if_eq (tgt := 101) hx hb dX7_readNumber_50 (by decide) (fun c9 => ?_) (fun c9 => ?_)
            · replace h := ite_t h c9
              obtain rfl := Option.some.inj h
              exact kk _ _ _ hW (lv_sub hl [0, 1, 2, 3, 4] rfl)
            · replace h := ite_f h c9
              refine lv_aload_n hx hb dX7_readNumber_53 rfl (lv_at hl 0 rfl) ?_
              refine wd_get hC i7 hW 1 wC_c1 rfl 2 (Nat.le_of_ble_eq_true rfl) f19 rfl rfl dX7_readNumber_54 ?_
              refine lv_iload_n hx hb dX7_readNumber_57 rfl (lv_at hl 3 rfl) ?_
              refine lv_iconst (v := 1) hx hb dX7_readNumber_58 (by decide) ?_
              refine lv_iadd hx hb dX7_readNumber_59 ?_
              refine lv_icmp_ne (tgt := 68) hx hb dX7_readNumber_60 (by decide) (fun c10 => ?_) (fun c10 => ?_)
              · replace h := ite_f h c10
                refine lv_iload hx hb dX7_readNumber_68 (lv_at hl 4 rfl) ?_
                refine lv_bipush (v := 10) hx hb dX7_readNumber_70 (by decide) ?_
                refine lv_imul hx hb dX7_readNumber_72 ?_
                refine lv_aload_n hx hb dX7_readNumber_73 rfl (lv_at hl 0 rfl) ?_
                refine wd_get hC i7 hW 1 wC_c1 rfl 0 (Nat.le_of_ble_eq_true rfl) f9 rfl rfl dX7_readNumber_74 ?_
                refine lv_aload_n hx hb dX7_readNumber_77 rfl (lv_at hl 0 rfl) ?_
                refine wd_get hC i7 hW 1 wC_c1 rfl 2 (Nat.le_of_ble_eq_true rfl) f19 rfl rfl dX7_readNumber_78 ?_
                obtain ⟨hi11, h⟩ := ck_of h
                refine wd_cald hC hW 2 wC_c2 hi11 dX7_readNumber_81 ?_
                refine lv_iadd hx hb dX7_readNumber_82 ?_
                refine lv_bipush (v := 48) hx hb dX7_readNumber_83 (by decide) ?_
                refine lv_isub hx hb dX7_readNumber_85 ?_
                refine lv_topi (fun v12 ev13 => ?_)
                replace h := nm_eq h ev13
                refine lv_istore (lv' := [(4, .int v12), (0, .ref (ad 1)), (1, .int x1), (2, .int x2), (3, .int x3)]) hx hb dX7_readNumber_86 hl (by decide) rfl (fun ls hl => ?_)
                refine lv_aload_n hx hb dX7_readNumber_88 rfl (lv_at hl 1 rfl) ?_
                refine lv_dup hx hb dX7_readNumber_89 rfl ?_
                refine wd_get hC i7 hW 1 wC_c1 rfl 2 (Nat.le_of_ble_eq_true rfl) f19 rfl rfl dX7_readNumber_90 ?_
                refine lv_iconst (v := 1) hx hb dX7_readNumber_93 (by decide) ?_
                refine lv_iadd hx hb dX7_readNumber_94 ?_
                refine wd_put hC i7 tyX7_ok nmX7 hW 1 wC_c1 rfl 2 (Nat.le_of_ble_eq_true rfl) f19 rfl rfl rfl rfl (Nat.le_of_ble_eq_true rfl) wC_s1_2 dX7_readNumber_95 (fun H locs hW => ?_)
                obtain ⟨S14, e15, h⟩ := nm_of h
                replace hW := wq_S e15 hW
                refine lv_goto (tgt := 17) hx hb dX7_readNumber_98 (by decide) ?_
                exact ih S14 x1 x2 x3 v12 _ _ _ r h hW (lv_sub hl [1, 2, 3, 4, 0] rfl) kk
              · replace h := ite_t h c10
                refine lv_iload hx hb dX7_readNumber_63 (lv_at hl 4 rfl) ?_
                refine lv_if_eq (tgt := 101) hx hb dX7_readNumber_65 (by decide) (fun c16 => ?_) (fun c16 => ?_)
                · replace h := ite_t h c16
                  obtain rfl := Option.some.inj h
                  exact kk _ _ _ hW (lv_sub hl [0, 1, 2, 3, 4] rfl)
                · replace h := ite_f h c16
                  refine lv_iload hx hb dX7_readNumber_68 (lv_at hl 4 rfl) ?_
                  refine lv_bipush (v := 10) hx hb dX7_readNumber_70 (by decide) ?_
                  refine lv_imul hx hb dX7_readNumber_72 ?_
                  refine lv_aload_n hx hb dX7_readNumber_73 rfl (lv_at hl 0 rfl) ?_
                  refine wd_get hC i7 hW 1 wC_c1 rfl 0 (Nat.le_of_ble_eq_true rfl) f9 rfl rfl dX7_readNumber_74 ?_
                  refine lv_aload_n hx hb dX7_readNumber_77 rfl (lv_at hl 0 rfl) ?_
                  refine wd_get hC i7 hW 1 wC_c1 rfl 2 (Nat.le_of_ble_eq_true rfl) f19 rfl rfl dX7_readNumber_78 ?_
                  obtain ⟨hi17, h⟩ := ck_of h
                  refine wd_cald hC hW 2 wC_c2 hi17 dX7_readNumber_81 ?_
                  refine lv_iadd hx hb dX7_readNumber_82 ?_
                  refine lv_bipush (v := 48) hx hb dX7_readNumber_83 (by decide) ?_
                  refine lv_isub hx hb dX7_readNumber_85 ?_
                  refine lv_topi (fun v18 ev19 => ?_)
                  replace h := nm_eq h ev19
                  refine lv_istore (lv' := [(4, .int v18), (0, .ref (ad 1)), (1, .int x1), (2, .int x2), (3, .int x3)]) hx hb dX7_readNumber_86 hl (by decide) rfl (fun ls hl => ?_)
                  refine lv_aload_n hx hb dX7_readNumber_88 rfl (lv_at hl 1 rfl) ?_
                  refine lv_dup hx hb dX7_readNumber_89 rfl ?_
                  refine wd_get hC i7 hW 1 wC_c1 rfl 2 (Nat.le_of_ble_eq_true rfl) f19 rfl rfl dX7_readNumber_90 ?_
                  refine lv_iconst (v := 1) hx hb dX7_readNumber_93 (by decide) ?_
                  refine lv_iadd hx hb dX7_readNumber_94 ?_
                  refine wd_put hC i7 tyX7_ok nmX7 hW 1 wC_c1 rfl 2 (Nat.le_of_ble_eq_true rfl) f19 rfl rfl rfl rfl (Nat.le_of_ble_eq_true rfl) wC_s1_2 dX7_readNumber_95 (fun H locs hW => ?_)
                  obtain ⟨S20, e21, h⟩ := nm_of h
                  replace hW := wq_S e21 hW
                  refine lv_goto (tgt := 17) hx hb dX7_readNumber_98 (by decide) ?_
                  exact ih S20 x1 x2 x3 v18 _ _ _ r h hW (lv_sub hl [1, 2, 3, 4, 0] rfl) kk
    obtain ⟨q2, hq3, h⟩ := bd_of h
    refine hL17 n S p0 p1 (S.1 2) 0  _ _ _ q2 hq3 hW (lv_sub hl [2, 3, 4, 1, 0] rfl) (fun H locs ls hW hl => ?_)
    refine lv_aload_n hx hb dX7_readNumber_101 rfl (lv_at hl 0 rfl) ?_
    refine wd_get hC i7 hW 1 wC_c1 rfl 2 (Nat.le_of_ble_eq_true rfl) f19 rfl rfl dX7_readNumber_102 ?_
    refine lv_iload_n hx hb dX7_readNumber_105 rfl (lv_at hl 3 rfl) ?_
    refine lv_icmp_ne (tgt := 120) hx hb dX7_readNumber_106 (by decide) (fun c22 => ?_) (fun c22 => ?_)
    · replace h := ite_f h c22
      refine lv_iload hx hb dX7_readNumber_120 (lv_at hl 4 rfl) ?_
      refine lv_iload_n hx hb dX7_readNumber_122 rfl (lv_at hl 1 rfl) ?_
      refine lv_icmp_lt (tgt := 132) hx hb dX7_readNumber_123 (by decide) (fun c23 => ?_) (fun c23 => ?_)
      · replace h := ite_t h c23
        refine lv_aload_n hx hb dX7_readNumber_132 rfl (lv_at hl 0 rfl) ?_
        refine lv_aload_n hx hb dX7_readNumber_133 rfl (lv_at hl 0 rfl) ?_
        refine wd_get hC i7 hW 1 wC_c1 rfl 2 (Nat.le_of_ble_eq_true rfl) f19 rfl rfl dX7_readNumber_134 ?_
        refine lv_iconst (v := 1) hx hb dX7_readNumber_137 (by decide) ?_
        refine lv_isub hx hb dX7_readNumber_138 ?_
        refine wd_put hC i7 tyX7_ok nmX7 hW 1 wC_c1 rfl 3 (Nat.le_of_ble_eq_true rfl) f22 rfl rfl rfl rfl (Nat.le_of_ble_eq_true rfl) wC_s1_3 dX7_readNumber_139 (fun H locs hW => ?_)
        obtain ⟨S24, e25, h⟩ := nm_of h
        replace hW := wq_S e25 hW
        refine lv_iload hx hb dX7_readNumber_142 (lv_at hl 4 rfl) ?_
        obtain rfl := Option.some.inj h
        exact wd_iret hA hQ hC hr hk hW dX7_readNumber_144
      · replace h := ite_f h c23
        refine lv_iload hx hb dX7_readNumber_126 (lv_at hl 4 rfl) ?_
        refine lv_iload_n hx hb dX7_readNumber_128 rfl (lv_at hl 2 rfl) ?_
        refine lv_icmp_le (tgt := 142) hx hb dX7_readNumber_129 (by decide) (fun c26 => ?_) (fun c26 => ?_)
        · replace h := ite_t h c26
          refine lv_iload hx hb dX7_readNumber_142 (lv_at hl 4 rfl) ?_
          obtain rfl := Option.some.inj h
          exact wd_iret hA hQ hC hr hk hW dX7_readNumber_144
        · replace h := ite_f h c26
          refine lv_aload_n hx hb dX7_readNumber_132 rfl (lv_at hl 0 rfl) ?_
          refine lv_aload_n hx hb dX7_readNumber_133 rfl (lv_at hl 0 rfl) ?_
          refine wd_get hC i7 hW 1 wC_c1 rfl 2 (Nat.le_of_ble_eq_true rfl) f19 rfl rfl dX7_readNumber_134 ?_
          refine lv_iconst (v := 1) hx hb dX7_readNumber_137 (by decide) ?_
          refine lv_isub hx hb dX7_readNumber_138 ?_
          refine wd_put hC i7 tyX7_ok nmX7 hW 1 wC_c1 rfl 3 (Nat.le_of_ble_eq_true rfl) f22 rfl rfl rfl rfl (Nat.le_of_ble_eq_true rfl) wC_s1_3 dX7_readNumber_139 (fun H locs hW => ?_)
          obtain ⟨S27, e28, h⟩ := nm_of h
          replace hW := wq_S e28 hW
          refine lv_iload hx hb dX7_readNumber_142 (lv_at hl 4 rfl) ?_
          obtain rfl := Option.some.inj h
          exact wd_iret hA hQ hC hr hk hW dX7_readNumber_144
    · replace h := ite_t h c22
      refine lv_aload_n hx hb dX7_readNumber_109 rfl (lv_at hl 0 rfl) ?_
      refine lv_aload_n hx hb dX7_readNumber_110 rfl (lv_at hl 0 rfl) ?_
      refine wd_get hC i7 hW 1 wC_c1 rfl 2 (Nat.le_of_ble_eq_true rfl) f19 rfl rfl dX7_readNumber_111 ?_
      refine wd_put hC i7 tyX7_ok nmX7 hW 1 wC_c1 rfl 3 (Nat.le_of_ble_eq_true rfl) f22 rfl rfl rfl rfl (Nat.le_of_ble_eq_true rfl) wC_s1_3 dX7_readNumber_114 (fun H locs hW => ?_)
      obtain ⟨S29, e30, h⟩ := nm_of h
      replace hW := wq_S e30 hW
      refine lv_goto (tgt := 142) hx hb dX7_readNumber_117 (by decide) ?_
      refine lv_iload hx hb dX7_readNumber_142 (lv_at hl 4 rfl) ?_
      obtain rfl := Option.some.inj h
      exact wd_iret hA hQ hC hr hk hW dX7_readNumber_144
  · replace h := ite_f h c1
    refine lv_iconst (v := 0) hx hb dX7_readNumber_7 (by decide) ?_
    obtain rfl := Option.some.inj h
    exact wd_iret hA hQ hC hr hk hW dX7_readNumber_8
def m_X7_readTable_L15 : Nat → St → Nat → Int32 → Int32 → Int32 → Int32 → Option (St)
  | 0, _, _, _, _, _, _ => none
  | n + 1, S, x1, x2, x3, x4, x5 =>
    if 6 ≤ x5 then (some S) else (if 0 ≤ (S.1 3) then (some S) else (if x5 ≤ 0 then ((m_X7_readNumber n S (x3 + 1) 40).bind (fun r6 => (m_X7_readSign r6.2 61).bind (fun r8 => (m_X7_readNumber n r8 0 x4).bind (fun r10 => if (r10.2.1 3) < 0 then (((if x5 = 0 then (some r10.1) else (some x4) : Option (Int32))).bind (fun q14 => (m_X3_spread n r10.2 x1 x2 x3 q14 r6.1 r10.1).bind (fun r16 => m_X7_readTable_L15 n r16 x1 x2 r6.1 r10.1 (x5 + 1)))) else (some r10.2))))) else (if (S.1 1) ≤ (S.1 2) then (some S) else (ck (S.1 2) 240 (if (S.2.1 2 (S.1 2).toNatClampNeg) = 44 then (nm (sI S 2 ((S.1 2) + 1)) (fun S21 => (m_X7_readNumber n S21 (x3 + 1) 40).bind (fun r23 => (m_X7_readSign r23.2 61).bind (fun r25 => (m_X7_readNumber n r25 0 x4).bind (fun r27 => if (r27.2.1 3) < 0 then (((if x5 = 0 then (some r27.1) else (some x4) : Option (Int32))).bind (fun q31 => (m_X3_spread n r27.2 x1 x2 x3 q31 r23.1 r27.1).bind (fun r33 => m_X7_readTable_L15 n r33 x1 x2 r23.1 r27.1 (x5 + 1)))) else (some r27.2)))))) else (some S))))))
theorem m_X7_readTable_L15_0 (S : St) (x1 : Nat) (x2 : Int32) (x3 : Int32) (x4 : Int32) (x5 : Int32) : m_X7_readTable_L15 0 S x1 x2 x3 x4 x5 = none := rfl
theorem m_X7_readTable_L15_s {n : Nat} {S : St} {x1 : Nat} {x2 : Int32} {x3 : Int32} {x4 : Int32} {x5 : Int32} : m_X7_readTable_L15 (n + 1) S x1 x2 x3 x4 x5 =
    (if 6 ≤ x5 then (some S) else (if 0 ≤ (S.1 3) then (some S) else (if x5 ≤ 0 then ((m_X7_readNumber n S (x3 + 1) 40).bind (fun r6 => (m_X7_readSign r6.2 61).bind (fun r8 => (m_X7_readNumber n r8 0 x4).bind (fun r10 => if (r10.2.1 3) < 0 then (((if x5 = 0 then (some r10.1) else (some x4) : Option (Int32))).bind (fun q14 => (m_X3_spread n r10.2 x1 x2 x3 q14 r6.1 r10.1).bind (fun r16 => m_X7_readTable_L15 n r16 x1 x2 r6.1 r10.1 (x5 + 1)))) else (some r10.2))))) else (if (S.1 1) ≤ (S.1 2) then (some S) else (ck (S.1 2) 240 (if (S.2.1 2 (S.1 2).toNatClampNeg) = 44 then (nm (sI S 2 ((S.1 2) + 1)) (fun S21 => (m_X7_readNumber n S21 (x3 + 1) 40).bind (fun r23 => (m_X7_readSign r23.2 61).bind (fun r25 => (m_X7_readNumber n r25 0 x4).bind (fun r27 => if (r27.2.1 3) < 0 then (((if x5 = 0 then (some r27.1) else (some x4) : Option (Int32))).bind (fun q31 => (m_X3_spread n r27.2 x1 x2 x3 q31 r23.1 r27.1).bind (fun r33 => m_X7_readTable_L15 n r33 x1 x2 r23.1 r27.1 (x5 + 1)))) else (some r27.2)))))) else (some S))))))) := rfl
def m_X7_readTable (n : Nat) (S : St) (k0 : Nat) (p1 : Int32) : Option (St) :=
  (m_X3_clearTable n S k0 p1).bind (fun r1 => m_X7_readTable_L15 n r1 k0 p1 0 1000 0)
set_option maxHeartbeats 4000000 in
set_option maxRecDepth 100000 in
theorem c_X7_readTable (l : Launch) (D : va_G) (cy : Nat → ClassId) (ad : Nat → Nat) (X : va_W) (n : Nat) (S : St) (k0 : Nat) (p1 : Int32) (r : (St)) (h : m_X7_readTable n S k0 p1 = some r) (hk0 : k0 < 7) : CT l yX7_readTable (wu yX7_readTable cX7_readTable 8 none) 2 D cy [.ref (ad 1), .ref (ad (4 + 3 * k0)), .int p1] (wC ad cy S ++ X) (none) (wC ad cy r ++ X) := by
  refine CT.mk (cc := cX7_readTable) (maxL := 8) (ret := none) (own := RX7) (by decide) rfl rfl (Nat.le_of_ble_eq_true rfl) ?_
  intro p e s m args below meth c ls A Q hA hQ hC hr hk hW hl
  have hx := hC.1
  have hb := hC.2.1
  have hown := hC.2.2.2.1
  have hts := hC.2.2.2.2
  have hl : lv_has ls 8 [(0, .ref (ad 1)), (1, .ref (ad (4 + 3 * k0))), (2, .int p1)] := hl
  have f22 := hts _ (wu_in w_3_4)
  have i7 := (fun w h => wu_in (inc_7 w h) : ∀ w ∈ u_ws RX7 TX7 4, w ∈ (wu yX7_readTable cX7_readTable 8 none))
  have f19 := hts _ (wu_in w_3_3)
  have f15 := hts _ (wu_in w_3_2)
  have f9 := hts _ (wu_in w_3_1)
  unfold m_X7_readTable at h
  refine lv_aload_n hx hb dX7_readTable_0 rfl (lv_at hl 1 rfl) ?_
  refine lv_iload_n hx hb dX7_readTable_1 rfl (lv_at hl 2 rfl) ?_
  obtain ⟨r1, hr2, h⟩ := bd_of h
  refine wd_callV0 (As := [.int p1]) hC hW (4 + 3 * k0) (wC_L hk0) rfl (c_X3_clearTable l D cy ad X n S k0 p1 r1 hr2 hk0) (cwV 1 hts (gu_V w_8_13 w_8_10 w_8_11 w_8_12 w_1_20) rfl rfl rfl hdX3_clearTable ⟨Nat.le_of_ble_eq_true rfl, Nat.le_of_ble_eq_true rfl⟩) rfl hl.1 rfl (Nat.le_of_ble_eq_true rfl) ⟨Nat.zero_le _, Nat.zero_le _⟩ dX7_readTable_2 (fun H locs hW => ?_)
  refine lv_iconst (v := 0) hx hb dX7_readTable_5 (by decide) ?_
  refine lv_istore_n (lv' := [(3, .int 0), (0, .ref (ad 1)), (1, .ref (ad (4 + 3 * k0))), (2, .int p1)]) hx hb dX7_readTable_6 rfl hl (by decide) rfl (fun ls hl => ?_)
  refine lv_sipush (v := 1000) hx hb dX7_readTable_7 (by decide) ?_
  refine lv_istore (lv' := [(4, .int 1000), (3, .int 0), (0, .ref (ad 1)), (1, .ref (ad (4 + 3 * k0))), (2, .int p1)]) hx hb dX7_readTable_10 hl (by decide) rfl (fun ls hl => ?_)
  refine lv_iconst (v := 0) hx hb dX7_readTable_12 (by decide) ?_
  refine lv_istore (lv' := [(5, .int 0), (4, .int 1000), (3, .int 0), (0, .ref (ad 1)), (1, .ref (ad (4 + 3 * k0))), (2, .int p1)]) hx hb dX7_readTable_13 hl (by decide) rfl (fun ls hl => ?_)
  have hL15 : ∀ (n : Nat) (S : St) (x1 : Nat) (x2 : Int32) (x3 : Int32) (x4 : Int32) (x5 : Int32) (hx1 : x1 < 7) (H : Heap) (locs : List Loc) (ls : Array Slot), m_X7_readTable_L15 n S x1 x2 x3 x4 x5 = some r → Wd D cy A s (wC ad cy S ++ X) H locs → lv_has ls 8 [(0, .ref (ad 1)), (1, .ref (ad (4 + 3 * x1))), (2, .int x2), (3, .int x3), (4, .int x4), (5, .int x5)] → W p l e (RM 2) s m args below meth c H locs 0 0 Q (F0 m 15 ls []) := by
    intro n
    induction n with
    | zero =>
      intro S x1 x2 x3 x4 x5 hx1 H locs ls h
      exact absurd (h.symm.trans (m_X7_readTable_L15_0 ..)) (by simp)
    | succ n ih =>
      intro S x1 x2 x3 x4 x5 hx1 H locs ls h hW hl
      rw [m_X7_readTable_L15_s] at h
      refine lv_iload hx hb dX7_readTable_15 (lv_at hl 5 rfl) ?_
      refine lv_bipush (v := 6) hx hb dX7_readTable_17 (by decide) ?_
      refine lv_icmp_ge (tgt := 139) hx hb dX7_readTable_19 (by decide) (fun c3 => ?_) (fun c3 => ?_)
      · replace h := ite_t h c3
        obtain rfl := Option.some.inj h
        exact wd_vret hA hQ hC hr hk hW dX7_readTable_139
      · replace h := ite_f h c3
        refine lv_aload_n hx hb dX7_readTable_22 rfl (lv_at hl 0 rfl) ?_
        refine wd_get hC i7 hW 1 wC_c1 rfl 3 (Nat.le_of_ble_eq_true rfl) f22 rfl rfl dX7_readTable_23 ?_
        refine lv_if_ge (tgt := 139) hx hb dX7_readTable_26 (by decide) (fun c4 => ?_) (fun c4 => ?_)
        · replace h := ite_t h c4
          obtain rfl := Option.some.inj h
          exact wd_vret hA hQ hC hr hk hW dX7_readTable_139
        · replace h := ite_f h c4
          refine lv_iload hx hb dX7_readTable_29 (lv_at hl 5 rfl) ?_
          refine lv_if_le (tgt := 70) hx hb dX7_readTable_31 (by decide) (fun c5 => ?_) (fun c5 => ?_)
          · replace h := ite_t h c5
            refine lv_aload_n hx hb dX7_readTable_70 rfl (lv_at hl 0 rfl) ?_
            refine lv_iload_n hx hb dX7_readTable_71 rfl (lv_at hl 3 rfl) ?_
            refine lv_iconst (v := 1) hx hb dX7_readTable_72 (by decide) ?_
            refine lv_iadd hx hb dX7_readTable_73 ?_
            refine lv_bipush (v := 40) hx hb dX7_readTable_74 (by decide) ?_
            obtain ⟨r6, hr7, h⟩ := bd_of h
            refine wd_callV1 (As := [.int (x3 + 1), .int 40]) hC hW 1 wC_c1 rfl (c_X7_readNumber l D cy ad X n S (x3 + 1) 40 r6 hr7) (cwV 2 hts (gu_V w_7_22 w_7_19 w_7_20 w_7_21 w_1_15) rfl rfl rfl hdX7_readNumber ⟨Nat.le_of_ble_eq_true rfl, Nat.le_of_ble_eq_true rfl⟩) rfl hl.1 rfl (Nat.le_of_ble_eq_true rfl) ⟨Nat.zero_le _, Nat.zero_le _⟩ dX7_readTable_76 (fun H locs hW => ?_)
            refine lv_istore (lv' := [(6, .int r6.1), (0, .ref (ad 1)), (1, .ref (ad (4 + 3 * x1))), (2, .int x2), (3, .int x3), (4, .int x4), (5, .int x5)]) hx hb dX7_readTable_79 hl (by decide) rfl (fun ls hl => ?_)
            refine lv_aload_n hx hb dX7_readTable_81 rfl (lv_at hl 1 rfl) ?_
            refine lv_bipush (v := 61) hx hb dX7_readTable_82 (by decide) ?_
            obtain ⟨r8, hr9, h⟩ := bd_of h
            refine wd_callV0 (As := [.int 61]) hC hW 1 wC_c1 rfl (c_X7_readSign l D cy ad X r6.2 61 r8 hr9) (cwV 1 hts (gu_V w_8_5 w_8_2 w_8_3 w_8_4 w_1_15) rfl rfl rfl hdX7_readSign ⟨Nat.le_of_ble_eq_true rfl, Nat.le_of_ble_eq_true rfl⟩) rfl hl.1 rfl (Nat.le_of_ble_eq_true rfl) ⟨Nat.zero_le _, Nat.zero_le _⟩ dX7_readTable_84 (fun H locs hW => ?_)
            refine lv_aload_n hx hb dX7_readTable_87 rfl (lv_at hl 1 rfl) ?_
            refine lv_iconst (v := 0) hx hb dX7_readTable_88 (by decide) ?_
            refine lv_iload hx hb dX7_readTable_89 (lv_at hl 5 rfl) ?_
            obtain ⟨r10, hr11, h⟩ := bd_of h
            refine wd_callV1 (As := [.int 0, .int x4]) hC hW 1 wC_c1 rfl (c_X7_readNumber l D cy ad X n r8 0 x4 r10 hr11) (cwV 2 hts (gu_V w_7_22 w_7_19 w_7_20 w_7_21 w_1_15) rfl rfl rfl hdX7_readNumber ⟨Nat.le_of_ble_eq_true rfl, Nat.le_of_ble_eq_true rfl⟩) rfl hl.1 rfl (Nat.le_of_ble_eq_true rfl) ⟨Nat.zero_le _, Nat.zero_le _⟩ dX7_readTable_91 (fun H locs hW => ?_)
            refine lv_istore (lv' := [(7, .int r10.1), (6, .int r6.1), (0, .ref (ad 1)), (1, .ref (ad (4 + 3 * x1))), (2, .int x2), (3, .int x3), (4, .int x4), (5, .int x5)]) hx hb dX7_readTable_94 hl (by decide) rfl (fun ls hl => ?_)
            refine lv_aload_n hx hb dX7_readTable_96 rfl (lv_at hl 2 rfl) ?_
            refine wd_get hC i7 hW 1 wC_c1 rfl 3 (Nat.le_of_ble_eq_true rfl) f22 rfl rfl dX7_readTable_97 ?_
            refine lv_if_lt (tgt := 104) hx hb dX7_readTable_100 (by decide) (fun c12 => ?_) (fun c12 => ?_)
            · replace h := ite_t h c12
              refine lv_aload_n hx hb dX7_readTable_104 rfl (lv_at hl 3 rfl) ?_
              refine lv_iload_n hx hb dX7_readTable_105 rfl (lv_at hl 4 rfl) ?_
              refine lv_iload_n hx hb dX7_readTable_106 rfl (lv_at hl 5 rfl) ?_
              refine lv_iload hx hb dX7_readTable_107 (lv_at hl 7 rfl) ?_
              obtain ⟨q14, hq15, h⟩ := bd_of h
              have hJ119 : ∀ (H : Heap) (locs : List Loc) (ls : Array Slot), Wd D cy A s (wC ad cy r10.2 ++ X) H locs → lv_has ls 8 [(7, .int r10.1), (6, .int r6.1), (0, .ref (ad 1)), (1, .ref (ad (4 + 3 * x1))), (2, .int x2), (3, .int x3), (4, .int x4), (5, .int x5)] → W p l e (RM 2) s m args below meth c H locs 0 0 Q (F0 m 119 ls [.int q14, .int x3, .int x2, .ref (ad (4 + 3 * x1))]) := by
                intro H locs ls hW hl
                refine lv_iload hx hb dX7_readTable_119 (lv_at hl 1 rfl) ?_
                refine lv_iload hx hb dX7_readTable_121 (lv_at hl 0 rfl) ?_
                obtain ⟨r16, hr17, h⟩ := bd_of h
                refine wd_callV0 (As := [.int x2, .int x3, .int q14, .int r6.1, .int r10.1]) hC hW (4 + 3 * x1) (wC_L hx1) rfl (c_X3_spread l D cy ad X n r10.2 x1 x2 x3 q14 r6.1 r10.1 r16 hr17 hx1) (cwV 5 hts (gu_V w_8_17 w_8_14 w_8_15 w_8_16 w_1_20) rfl rfl rfl hdX3_spread ⟨Nat.le_of_ble_eq_true rfl, Nat.le_of_ble_eq_true rfl⟩) rfl hl.1 rfl (Nat.le_of_ble_eq_true rfl) ⟨Nat.zero_le _, Nat.zero_le _⟩ dX7_readTable_123 (fun H locs hW => ?_)
                refine lv_iload hx hb dX7_readTable_126 (lv_at hl 1 rfl) ?_
                refine lv_istore_n (lv' := [(3, .int r6.1), (7, .int r10.1), (6, .int r6.1), (0, .ref (ad 1)), (1, .ref (ad (4 + 3 * x1))), (2, .int x2), (4, .int x4), (5, .int x5)]) hx hb dX7_readTable_128 rfl hl (by decide) rfl (fun ls hl => ?_)
                refine lv_iload hx hb dX7_readTable_129 (lv_at hl 1 rfl) ?_
                refine lv_istore (lv' := [(4, .int r10.1), (3, .int r6.1), (7, .int r10.1), (6, .int r6.1), (0, .ref (ad 1)), (1, .ref (ad (4 + 3 * x1))), (2, .int x2), (5, .int x5)]) hx hb dX7_readTable_131 hl (by decide) rfl (fun ls hl => ?_)
                refine lv_iinc (v := x5 + 1) (lv' := [(5, .int (x5 + 1)), (4, .int r10.1), (3, .int r6.1), (7, .int r10.1), (6, .int r6.1), (0, .ref (ad 1)), (1, .ref (ad (4 + 3 * x1))), (2, .int x2)]) hx hb dX7_readTable_133 hl (k := 7) rfl rfl (by decide) rfl (fun ls hl => ?_)
                refine lv_goto (tgt := 15) hx hb dX7_readTable_136 (by decide) ?_
                exact ih r16 x1 x2 r6.1 r10.1 (x5 + 1) hx1 _ _ _ h hW (lv_sub hl [5, 6, 7, 2, 1, 0] rfl)
              replace h := hq15
              refine lv_if_ne (tgt := 117) hx hb dX7_readTable_109 (by decide) (fun c13 => ?_) (fun c13 => ?_)
              · replace h := ite_f h c13
                refine lv_iload hx hb dX7_readTable_117 (lv_at hl 6 rfl) ?_
                obtain rfl := Option.some.inj h
                exact hJ119 _ _ _ hW (lv_sub hl [0, 1, 2, 3, 4, 5, 6, 7] rfl)
              · replace h := ite_t h c13
                refine lv_iload hx hb dX7_readTable_112 (lv_at hl 0 rfl) ?_
                refine lv_goto (tgt := 119) hx hb dX7_readTable_114 (by decide) ?_
                obtain rfl := Option.some.inj h
                exact hJ119 _ _ _ hW (lv_sub hl [0, 1, 2, 3, 4, 5, 6, 7] rfl)
            · replace h := ite_f h c12
              obtain rfl := Option.some.inj h
              exact wd_vret hA hQ hC hr hk hW dX7_readTable_103
          · replace h := ite_f h c5
            refine lv_aload_n hx hb dX7_readTable_34 rfl (lv_at hl 0 rfl) ?_
            refine wd_get hC i7 hW 1 wC_c1 rfl 2 (Nat.le_of_ble_eq_true rfl) f19 rfl rfl dX7_readTable_35 ?_
            refine lv_aload_n hx hb dX7_readTable_38 rfl (lv_at hl 0 rfl) ?_
            refine wd_get hC i7 hW 1 wC_c1 rfl 1 (Nat.le_of_ble_eq_true rfl) f15 rfl rfl dX7_readTable_39 ?_
            refine lv_icmp_ge (tgt := 59) hx hb dX7_readTable_42 (by decide) (fun c18 => ?_) (fun c18 => ?_)
            · replace h := ite_t h c18
              obtain rfl := Option.some.inj h
              exact wd_vret hA hQ hC hr hk hW dX7_readTable_59
            · replace h := ite_f h c18
              refine lv_aload_n hx hb dX7_readTable_45 rfl (lv_at hl 0 rfl) ?_
              refine wd_get hC i7 hW 1 wC_c1 rfl 0 (Nat.le_of_ble_eq_true rfl) f9 rfl rfl dX7_readTable_46 ?_
              refine lv_aload_n hx hb dX7_readTable_49 rfl (lv_at hl 0 rfl) ?_
              refine wd_get hC i7 hW 1 wC_c1 rfl 2 (Nat.le_of_ble_eq_true rfl) f19 rfl rfl dX7_readTable_50 ?_
              obtain ⟨hi19, h⟩ := ck_of h
              refine wd_cald hC hW 2 wC_c2 hi19 dX7_readTable_53 ?_
              refine lv_bipush (v := 44) hx hb dX7_readTable_54 (by decide) ?_
              refine lv_icmp_eq (tgt := 60) hx hb dX7_readTable_56 (by decide) (fun c20 => ?_) (fun c20 => ?_)
              · replace h := ite_t h c20
                refine lv_aload_n hx hb dX7_readTable_60 rfl (lv_at hl 0 rfl) ?_
                refine lv_dup hx hb dX7_readTable_61 rfl ?_
                refine wd_get hC i7 hW 1 wC_c1 rfl 2 (Nat.le_of_ble_eq_true rfl) f19 rfl rfl dX7_readTable_62 ?_
                refine lv_iconst (v := 1) hx hb dX7_readTable_65 (by decide) ?_
                refine lv_iadd hx hb dX7_readTable_66 ?_
                refine wd_put hC i7 tyX7_ok nmX7 hW 1 wC_c1 rfl 2 (Nat.le_of_ble_eq_true rfl) f19 rfl rfl rfl rfl (Nat.le_of_ble_eq_true rfl) wC_s1_2 dX7_readTable_67 (fun H locs hW => ?_)
                obtain ⟨S21, e22, h⟩ := nm_of h
                replace hW := wq_S e22 hW
                refine lv_aload_n hx hb dX7_readTable_70 rfl (lv_at hl 0 rfl) ?_
                refine lv_iload_n hx hb dX7_readTable_71 rfl (lv_at hl 3 rfl) ?_
                refine lv_iconst (v := 1) hx hb dX7_readTable_72 (by decide) ?_
                refine lv_iadd hx hb dX7_readTable_73 ?_
                refine lv_bipush (v := 40) hx hb dX7_readTable_74 (by decide) ?_
                obtain ⟨r23, hr24, h⟩ := bd_of h
                refine wd_callV1 (As := [.int (x3 + 1), .int 40]) hC hW 1 wC_c1 rfl (c_X7_readNumber l D cy ad X n S21 (x3 + 1) 40 r23 hr24) (cwV 2 hts (gu_V w_7_22 w_7_19 w_7_20 w_7_21 w_1_15) rfl rfl rfl hdX7_readNumber ⟨Nat.le_of_ble_eq_true rfl, Nat.le_of_ble_eq_true rfl⟩) rfl hl.1 rfl (Nat.le_of_ble_eq_true rfl) ⟨Nat.zero_le _, Nat.zero_le _⟩ dX7_readTable_76 (fun H locs hW => ?_)
                refine lv_istore (lv' := [(6, .int r23.1), (0, .ref (ad 1)), (1, .ref (ad (4 + 3 * x1))), (2, .int x2), (3, .int x3), (4, .int x4), (5, .int x5)]) hx hb dX7_readTable_79 hl (by decide) rfl (fun ls hl => ?_)
                refine lv_aload_n hx hb dX7_readTable_81 rfl (lv_at hl 1 rfl) ?_
                refine lv_bipush (v := 61) hx hb dX7_readTable_82 (by decide) ?_
                obtain ⟨r25, hr26, h⟩ := bd_of h
                refine wd_callV0 (As := [.int 61]) hC hW 1 wC_c1 rfl (c_X7_readSign l D cy ad X r23.2 61 r25 hr26) (cwV 1 hts (gu_V w_8_5 w_8_2 w_8_3 w_8_4 w_1_15) rfl rfl rfl hdX7_readSign ⟨Nat.le_of_ble_eq_true rfl, Nat.le_of_ble_eq_true rfl⟩) rfl hl.1 rfl (Nat.le_of_ble_eq_true rfl) ⟨Nat.zero_le _, Nat.zero_le _⟩ dX7_readTable_84 (fun H locs hW => ?_)
                refine lv_aload_n hx hb dX7_readTable_87 rfl (lv_at hl 1 rfl) ?_
                refine lv_iconst (v := 0) hx hb dX7_readTable_88 (by decide) ?_
                refine lv_iload hx hb dX7_readTable_89 (lv_at hl 5 rfl) ?_
                obtain ⟨r27, hr28, h⟩ := bd_of h
                refine wd_callV1 (As := [.int 0, .int x4]) hC hW 1 wC_c1 rfl (c_X7_readNumber l D cy ad X n r25 0 x4 r27 hr28) (cwV 2 hts (gu_V w_7_22 w_7_19 w_7_20 w_7_21 w_1_15) rfl rfl rfl hdX7_readNumber ⟨Nat.le_of_ble_eq_true rfl, Nat.le_of_ble_eq_true rfl⟩) rfl hl.1 rfl (Nat.le_of_ble_eq_true rfl) ⟨Nat.zero_le _, Nat.zero_le _⟩ dX7_readTable_91 (fun H locs hW => ?_)
                refine lv_istore (lv' := [(7, .int r27.1), (6, .int r23.1), (0, .ref (ad 1)), (1, .ref (ad (4 + 3 * x1))), (2, .int x2), (3, .int x3), (4, .int x4), (5, .int x5)]) hx hb dX7_readTable_94 hl (by decide) rfl (fun ls hl => ?_)
                refine lv_aload_n hx hb dX7_readTable_96 rfl (lv_at hl 2 rfl) ?_
                refine wd_get hC i7 hW 1 wC_c1 rfl 3 (Nat.le_of_ble_eq_true rfl) f22 rfl rfl dX7_readTable_97 ?_
                refine lv_if_lt (tgt := 104) hx hb dX7_readTable_100 (by decide) (fun c29 => ?_) (fun c29 => ?_)
                · replace h := ite_t h c29
                  refine lv_aload_n hx hb dX7_readTable_104 rfl (lv_at hl 3 rfl) ?_
                  refine lv_iload_n hx hb dX7_readTable_105 rfl (lv_at hl 4 rfl) ?_
                  refine lv_iload_n hx hb dX7_readTable_106 rfl (lv_at hl 5 rfl) ?_
                  refine lv_iload hx hb dX7_readTable_107 (lv_at hl 7 rfl) ?_
                  obtain ⟨q31, hq32, h⟩ := bd_of h
                  have hJ119 : ∀ (H : Heap) (locs : List Loc) (ls : Array Slot), Wd D cy A s (wC ad cy r27.2 ++ X) H locs → lv_has ls 8 [(7, .int r27.1), (6, .int r23.1), (0, .ref (ad 1)), (1, .ref (ad (4 + 3 * x1))), (2, .int x2), (3, .int x3), (4, .int x4), (5, .int x5)] → W p l e (RM 2) s m args below meth c H locs 0 0 Q (F0 m 119 ls [.int q31, .int x3, .int x2, .ref (ad (4 + 3 * x1))]) := by
                    intro H locs ls hW hl
                    refine lv_iload hx hb dX7_readTable_119 (lv_at hl 1 rfl) ?_
                    refine lv_iload hx hb dX7_readTable_121 (lv_at hl 0 rfl) ?_
                    obtain ⟨r33, hr34, h⟩ := bd_of h
                    refine wd_callV0 (As := [.int x2, .int x3, .int q31, .int r23.1, .int r27.1]) hC hW (4 + 3 * x1) (wC_L hx1) rfl (c_X3_spread l D cy ad X n r27.2 x1 x2 x3 q31 r23.1 r27.1 r33 hr34 hx1) (cwV 5 hts (gu_V w_8_17 w_8_14 w_8_15 w_8_16 w_1_20) rfl rfl rfl hdX3_spread ⟨Nat.le_of_ble_eq_true rfl, Nat.le_of_ble_eq_true rfl⟩) rfl hl.1 rfl (Nat.le_of_ble_eq_true rfl) ⟨Nat.zero_le _, Nat.zero_le _⟩ dX7_readTable_123 (fun H locs hW => ?_)
                    refine lv_iload hx hb dX7_readTable_126 (lv_at hl 1 rfl) ?_
                    refine lv_istore_n (lv' := [(3, .int r23.1), (7, .int r27.1), (6, .int r23.1), (0, .ref (ad 1)), (1, .ref (ad (4 + 3 * x1))), (2, .int x2), (4, .int x4), (5, .int x5)]) hx hb dX7_readTable_128 rfl hl (by decide) rfl (fun ls hl => ?_)
                    refine lv_iload hx hb dX7_readTable_129 (lv_at hl 1 rfl) ?_
                    refine lv_istore (lv' := [(4, .int r27.1), (3, .int r23.1), (7, .int r27.1), (6, .int r23.1), (0, .ref (ad 1)), (1, .ref (ad (4 + 3 * x1))), (2, .int x2), (5, .int x5)]) hx hb dX7_readTable_131 hl (by decide) rfl (fun ls hl => ?_)
                    refine lv_iinc (v := x5 + 1) (lv' := [(5, .int (x5 + 1)), (4, .int r27.1), (3, .int r23.1), (7, .int r27.1), (6, .int r23.1), (0, .ref (ad 1)), (1, .ref (ad (4 + 3 * x1))), (2, .int x2)]) hx hb dX7_readTable_133 hl (k := 7) rfl rfl (by decide) rfl (fun ls hl => ?_)
                    refine lv_goto (tgt := 15) hx hb dX7_readTable_136 (by decide) ?_
                    exact ih r33 x1 x2 r23.1 r27.1 (x5 + 1) hx1 _ _ _ h hW (lv_sub hl [5, 6, 7, 2, 1, 0] rfl)
                  replace h := hq32
                  refine lv_if_ne (tgt := 117) hx hb dX7_readTable_109 (by decide) (fun c30 => ?_) (fun c30 => ?_)
                  · replace h := ite_f h c30
                    refine lv_iload hx hb dX7_readTable_117 (lv_at hl 6 rfl) ?_
                    obtain rfl := Option.some.inj h
                    exact hJ119 _ _ _ hW (lv_sub hl [0, 1, 2, 3, 4, 5, 6, 7] rfl)
                  · replace h := ite_t h c30
                    refine lv_iload hx hb dX7_readTable_112 (lv_at hl 0 rfl) ?_
                    refine lv_goto (tgt := 119) hx hb dX7_readTable_114 (by decide) ?_
                    obtain rfl := Option.some.inj h
                    exact hJ119 _ _ _ hW (lv_sub hl [0, 1, 2, 3, 4, 5, 6, 7] rfl)
                · replace h := ite_f h c29
                  obtain rfl := Option.some.inj h
                  exact wd_vret hA hQ hC hr hk hW dX7_readTable_103
              · replace h := ite_f h c20
                obtain rfl := Option.some.inj h
                exact wd_vret hA hQ hC hr hk hW dX7_readTable_59
  exact hL15 n r1 k0 p1 0 1000 0 hk0 _ _ _ h hW (lv_sub hl [3, 4, 5, 2, 1, 0] rfl)
def m_X7_readLifter_L58 : Nat → St → Int32 → Nat → Int32 → Option (St)
  | 0, _, _, _, _ => none
  | n + 1, S, x2, x3, x4 =>
    if x2 ≤ x4 then (some S) else (if 0 ≤ (S.1 3) then (some S) else (ck x4 7 (if (S.1 (11 + 2 * x4.toNatClampNeg)) = (S.1 (11 + 2 * x3)) then (nm (sI S 3 ((S.1 2) - 1)) (fun S24 => m_X7_readLifter_L58 n S24 x2 x3 (x4 + 1))) else (m_X7_readLifter_L58 n S x2 x3 (x4 + 1)))))
theorem m_X7_readLifter_L58_0 (S : St) (x2 : Int32) (x3 : Nat) (x4 : Int32) : m_X7_readLifter_L58 0 S x2 x3 x4 = none := rfl
theorem m_X7_readLifter_L58_s {n : Nat} {S : St} {x2 : Int32} {x3 : Nat} {x4 : Int32} : m_X7_readLifter_L58 (n + 1) S x2 x3 x4 =
    (if x2 ≤ x4 then (some S) else (if 0 ≤ (S.1 3) then (some S) else (ck x4 7 (if (S.1 (11 + 2 * x4.toNatClampNeg)) = (S.1 (11 + 2 * x3)) then (nm (sI S 3 ((S.1 2) - 1)) (fun S24 => m_X7_readLifter_L58 n S24 x2 x3 (x4 + 1))) else (m_X7_readLifter_L58 n S x2 x3 (x4 + 1)))))) := rfl
def m_X7_readLifter_L104 : Nat → St → Nat → Int32 → Option (St)
  | 0, _, _, _ => none
  | n + 1, S, x3, x4 =>
    if 3 ≤ x4 then (some S) else (if 0 ≤ (S.1 3) then (some S) else ((m_X7_readSign S 59).bind (fun r30 => (m_X7_readTable n r30 x3 x4).bind (fun r32 => (m_X7_readSign r32 47).bind (fun r34 => (m_X7_readNumber n r34 1 40).bind (fun r36 => ck (x4 * 3) 9 (nm (sA r36.2 (6 + 3 * x3) (x4 * 3).toNatClampNeg r36.1) (fun S39 => (m_X7_readSign S39 43).bind (fun r41 => (m_X7_readNumber n r41 1 9).bind (fun r43 => ck ((x4 * 3) + 1) 9 (nm (sA r43.2 (6 + 3 * x3) ((x4 * 3) + 1).toNatClampNeg r43.1) (fun S46 => (m_X7_readSign S46 43).bind (fun r48 => (m_X7_readNumber n r48 0 9).bind (fun r50 => ck ((x4 * 3) + 2) 9 (nm (sA r50.2 (6 + 3 * x3) ((x4 * 3) + 2).toNatClampNeg r50.1) (fun S53 => m_X7_readLifter_L104 n S53 x3 (x4 + 1)))))))))))))))))
theorem m_X7_readLifter_L104_0 (S : St) (x3 : Nat) (x4 : Int32) : m_X7_readLifter_L104 0 S x3 x4 = none := rfl
theorem m_X7_readLifter_L104_s {n : Nat} {S : St} {x3 : Nat} {x4 : Int32} : m_X7_readLifter_L104 (n + 1) S x3 x4 =
    (if 3 ≤ x4 then (some S) else (if 0 ≤ (S.1 3) then (some S) else ((m_X7_readSign S 59).bind (fun r30 => (m_X7_readTable n r30 x3 x4).bind (fun r32 => (m_X7_readSign r32 47).bind (fun r34 => (m_X7_readNumber n r34 1 40).bind (fun r36 => ck (x4 * 3) 9 (nm (sA r36.2 (6 + 3 * x3) (x4 * 3).toNatClampNeg r36.1) (fun S39 => (m_X7_readSign S39 43).bind (fun r41 => (m_X7_readNumber n r41 1 9).bind (fun r43 => ck ((x4 * 3) + 1) 9 (nm (sA r43.2 (6 + 3 * x3) ((x4 * 3) + 1).toNatClampNeg r43.1) (fun S46 => (m_X7_readSign S46 43).bind (fun r48 => (m_X7_readNumber n r48 0 9).bind (fun r50 => ck ((x4 * 3) + 2) 9 (nm (sA r50.2 (6 + 3 * x3) ((x4 * 3) + 2).toNatClampNeg r50.1) (fun S53 => m_X7_readLifter_L104 n S53 x3 (x4 + 1)))))))))))))))))) := rfl
def m_X7_readLifter (n : Nat) (S : St) (p1 : Int32) : Option (Int32 × St) :=
  nm (sI S 2 0) (fun S1 => nm (sI S1 3 (-1)) (fun S3 => if p1 < 0 then (some (0, S3)) else (if p1 < 7 then (ck p1 7 ((m_X7_readNumber n S3 1 200).bind (fun r8 => nm (sI r8.2 (10 + 2 * p1.toNatClampNeg) r8.1) (fun S10 => (m_X7_readSign S10 44).bind (fun r12 => (m_X7_readNumber n r12 0 99).bind (fun r14 => nm (sI r14.2 (11 + 2 * p1.toNatClampNeg) r14.1) (fun S16 => (m_X7_readLifter_L58 n S16 p1 p1.toNatClampNeg 0).bind (fun q18 => (m_X7_readLifter_L104 n q18 p1.toNatClampNeg 0).bind (fun q26 => if 0 ≤ (q26.1 3) then (some (q26.1 3, q26)) else (if (q26.1 1) ≤ (q26.1 2) then (some (q26.1 3, q26)) else (nm (sI q26 3 (q26.1 2)) (fun S57 => some (S57.1 3, S57))))))))))))) else (some (0, S3)))))
set_option maxHeartbeats 4000000 in
set_option maxRecDepth 100000 in
theorem c_X7_readLifter (l : Launch) (D : va_G) (cy : Nat → ClassId) (ad : Nat → Nat) (X : va_W) (n : Nat) (S : St) (p1 : Int32) (r : (Int32 × St)) (h : m_X7_readLifter n S p1 = some r) : CT l yX7_readLifter (wu yX7_readLifter cX7_readLifter 5 (some .int)) 3 D cy [.ref (ad 1), .ref (ad 3), .int p1] (wC ad cy S ++ X) (some (.int r.1)) (wC ad cy r.2 ++ X) := by
  refine CT.mk (cc := cX7_readLifter) (maxL := 5) (ret := (some .int)) (own := RX7) (by decide) rfl rfl (Nat.le_of_ble_eq_true rfl) ?_
  intro p e s m args below meth c ls A Q hA hQ hC hr hk hW hl
  have hx := hC.1
  have hb := hC.2.1
  have hown := hC.2.2.2.1
  have hts := hC.2.2.2.2
  have hl : lv_has ls 5 [(0, .ref (ad 1)), (1, .ref (ad 3)), (2, .int p1)] := hl
  have f19 := hts _ (wu_in w_3_3)
  have i7 := (fun w h => wu_in (inc_7 w h) : ∀ w ∈ u_ws RX7 TX7 4, w ∈ (wu yX7_readLifter cX7_readLifter 5 (some .int)))
  have f22 := hts _ (wu_in w_3_4)
  have f29 := hts _ (wu_in w_7_16)
  have i3 := (fun w h => wu_in (inc_3 w h) : ∀ w ∈ u_ws RX3 TX3 4, w ∈ (wu yX7_readLifter cX7_readLifter 5 (some .int)))
  have f38 := hts _ (wu_in w_7_17)
  have f45 := hts _ (wu_in w_7_18)
  have f15 := hts _ (wu_in w_3_2)
  unfold m_X7_readLifter at h
  refine lv_aload_n hx hb dX7_readLifter_0 rfl (lv_at hl 0 rfl) ?_
  refine lv_iconst (v := 0) hx hb dX7_readLifter_1 (by decide) ?_
  refine wd_put hC i7 tyX7_ok nmX7 hW 1 wC_c1 rfl 2 (Nat.le_of_ble_eq_true rfl) f19 rfl rfl rfl rfl (Nat.le_of_ble_eq_true rfl) wC_s1_2 dX7_readLifter_2 (fun H locs hW => ?_)
  obtain ⟨S1, e2, h⟩ := nm_of h
  replace hW := wq_S e2 hW
  refine lv_aload_n hx hb dX7_readLifter_5 rfl (lv_at hl 0 rfl) ?_
  refine lv_iconst (v := (-1)) hx hb dX7_readLifter_6 (by decide) ?_
  refine wd_put hC i7 tyX7_ok nmX7 hW 1 wC_c1 rfl 3 (Nat.le_of_ble_eq_true rfl) f22 rfl rfl rfl rfl (Nat.le_of_ble_eq_true rfl) wC_s1_3 dX7_readLifter_7 (fun H locs hW => ?_)
  obtain ⟨S3, e4, h⟩ := nm_of h
  replace hW := wq_S e4 hW
  refine lv_iload_n hx hb dX7_readLifter_10 rfl (lv_at hl 2 rfl) ?_
  refine lv_if_lt (tgt := 20) hx hb dX7_readLifter_11 (by decide) (fun c5 => ?_) (fun c5 => ?_)
  · replace h := ite_t h c5
    refine lv_iconst (v := 0) hx hb dX7_readLifter_20 (by decide) ?_
    obtain rfl := Option.some.inj h
    exact wd_iret hA hQ hC hr hk hW dX7_readLifter_21
  · replace h := ite_f h c5
    refine lv_iload_n hx hb dX7_readLifter_14 rfl (lv_at hl 2 rfl) ?_
    refine lv_aload_n hx hb dX7_readLifter_15 rfl (lv_at hl 1 rfl) ?_
    refine wd_alen hC hW 3 4 wC_c3 rfl (v := 7) rfl dX7_readLifter_16 ?_
    refine lv_icmp_lt (tgt := 22) hx hb dX7_readLifter_17 (by decide) (fun c6 => ?_) (fun c6 => ?_)
    · replace h := ite_t h c6
      refine lv_aload_n hx hb dX7_readLifter_22 rfl (lv_at hl 1 rfl) ?_
      refine lv_iload_n hx hb dX7_readLifter_23 rfl (lv_at hl 2 rfl) ?_
      obtain ⟨hi7, h⟩ := ck_of h
      refine wd_aldq hC hW 3 wC_c3 hi7 rfl dX7_readLifter_24 ?_
      refine lv_astore_n (lv' := [(3, .ref (ad (4 + 3 * p1.toNatClampNeg))), (0, .ref (ad 1)), (1, .ref (ad 3)), (2, .int p1)]) hx hb dX7_readLifter_25 rfl hl (by decide) rfl (fun ls hl => ?_)
      refine lv_aload_n hx hb dX7_readLifter_26 rfl (lv_at hl 0 rfl) ?_
      refine lv_aload_n hx hb dX7_readLifter_27 rfl (lv_at hl 1 rfl) ?_
      refine lv_iconst (v := 1) hx hb dX7_readLifter_28 (by decide) ?_
      refine lv_sipush (v := 200) hx hb dX7_readLifter_29 (by decide) ?_
      obtain ⟨r8, hr9, h⟩ := bd_of h
      refine wd_callV1 (As := [.int 1, .int 200]) hC hW 1 wC_c1 rfl (c_X7_readNumber l D cy ad X n S3 1 200 r8 hr9) (cwV 2 hts (gu_V w_7_22 w_7_19 w_7_20 w_7_21 w_1_15) rfl rfl rfl hdX7_readNumber ⟨Nat.le_of_ble_eq_true rfl, Nat.le_of_ble_eq_true rfl⟩) rfl hl.1 rfl (Nat.le_of_ble_eq_true rfl) ⟨Nat.zero_le _, Nat.zero_le _⟩ dX7_readLifter_32 (fun H locs hW => ?_)
      refine wd_put hC i3 tyX3_ok nmX3 hW (4 + 3 * p1.toNatClampNeg) (wC_L (in_lt hi7)) rfl 0 (Nat.le_of_ble_eq_true rfl) f29 rfl rfl rfl rfl (Nat.le_of_ble_eq_true rfl) (wC_L_s0 (in_lt hi7)) dX7_readLifter_35 (fun H locs hW => ?_)
      obtain ⟨S10, e11, h⟩ := nm_of h
      replace hW := wq_S e11 hW
      refine lv_aload_n hx hb dX7_readLifter_38 rfl (lv_at hl 1 rfl) ?_
      refine lv_bipush (v := 44) hx hb dX7_readLifter_39 (by decide) ?_
      obtain ⟨r12, hr13, h⟩ := bd_of h
      refine wd_callV0 (As := [.int 44]) hC hW 1 wC_c1 rfl (c_X7_readSign l D cy ad X S10 44 r12 hr13) (cwV 1 hts (gu_V w_8_5 w_8_2 w_8_3 w_8_4 w_1_15) rfl rfl rfl hdX7_readSign ⟨Nat.le_of_ble_eq_true rfl, Nat.le_of_ble_eq_true rfl⟩) rfl hl.1 rfl (Nat.le_of_ble_eq_true rfl) ⟨Nat.zero_le _, Nat.zero_le _⟩ dX7_readLifter_41 (fun H locs hW => ?_)
      refine lv_aload_n hx hb dX7_readLifter_44 rfl (lv_at hl 0 rfl) ?_
      refine lv_aload_n hx hb dX7_readLifter_45 rfl (lv_at hl 1 rfl) ?_
      refine lv_iconst (v := 0) hx hb dX7_readLifter_46 (by decide) ?_
      refine lv_bipush (v := 99) hx hb dX7_readLifter_47 (by decide) ?_
      obtain ⟨r14, hr15, h⟩ := bd_of h
      refine wd_callV1 (As := [.int 0, .int 99]) hC hW 1 wC_c1 rfl (c_X7_readNumber l D cy ad X n r12 0 99 r14 hr15) (cwV 2 hts (gu_V w_7_22 w_7_19 w_7_20 w_7_21 w_1_15) rfl rfl rfl hdX7_readNumber ⟨Nat.le_of_ble_eq_true rfl, Nat.le_of_ble_eq_true rfl⟩) rfl hl.1 rfl (Nat.le_of_ble_eq_true rfl) ⟨Nat.zero_le _, Nat.zero_le _⟩ dX7_readLifter_49 (fun H locs hW => ?_)
      refine wd_put hC i3 tyX3_ok nmX3 hW (4 + 3 * p1.toNatClampNeg) (wC_L (in_lt hi7)) rfl 1 (Nat.le_of_ble_eq_true rfl) f38 rfl rfl rfl rfl (Nat.le_of_ble_eq_true rfl) (wC_L_s1 (in_lt hi7)) dX7_readLifter_52 (fun H locs hW => ?_)
      obtain ⟨S16, e17, h⟩ := nm_of h
      replace hW := wq_S e17 hW
      refine lv_iconst (v := 0) hx hb dX7_readLifter_55 (by decide) ?_
      refine lv_istore (lv' := [(4, .int 0), (3, .ref (ad (4 + 3 * p1.toNatClampNeg))), (0, .ref (ad 1)), (1, .ref (ad 3)), (2, .int p1)]) hx hb dX7_readLifter_56 hl (by decide) rfl (fun ls hl => ?_)
      have hL58 : ∀ (n : Nat) (S : St) (x2 : Int32) (x3 : Nat) (x4 : Int32) (hx3 : x3 < 7) (H : Heap) (locs : List Loc) (ls : Array Slot) (r : (St)), m_X7_readLifter_L58 n S x2 x3 x4 = some r → Wd D cy A s (wC ad cy S ++ X) H locs → lv_has ls 5 [(0, .ref (ad 1)), (1, .ref (ad 3)), (2, .int x2), (3, .ref (ad (4 + 3 * x3))), (4, .int x4)] → (∀ (H : Heap) (locs : List Loc) (ls : Array Slot), Wd D cy A s (wC ad cy r ++ X) H locs → lv_has ls 5 [(0, .ref (ad 1)), (1, .ref (ad 3)), (2, .int x2), (3, .ref (ad (4 + 3 * x3)))] → W p l e (RM 3) s m args below meth c H locs 0 0 Q (F0 m 101 ls [])) → W p l e (RM 3) s m args below meth c H locs 0 0 Q (F0 m 58 ls []) := by
        intro n
        induction n with
        | zero =>
          intro S x2 x3 x4 hx3 H locs ls r h
          exact absurd (h.symm.trans (m_X7_readLifter_L58_0 ..)) (by simp)
        | succ n ih =>
          intro S x2 x3 x4 hx3 H locs ls r h hW hl kk
          rw [m_X7_readLifter_L58_s] at h
          refine lv_iload hx hb dX7_readLifter_58 (lv_at hl 4 rfl) ?_
          refine lv_iload_n hx hb dX7_readLifter_60 rfl (lv_at hl 2 rfl) ?_
          refine lv_icmp_ge (tgt := 101) hx hb dX7_readLifter_61 (by decide) (fun c20 => ?_) (fun c20 => ?_)
          · replace h := ite_t h c20
            obtain rfl := Option.some.inj h
            exact kk _ _ _ hW (lv_sub hl [0, 1, 2, 3] rfl)
          · replace h := ite_f h c20
            refine lv_aload_n hx hb dX7_readLifter_64 rfl (lv_at hl 0 rfl) ?_
            refine wd_get hC i7 hW 1 wC_c1 rfl 3 (Nat.le_of_ble_eq_true rfl) f22 rfl rfl dX7_readLifter_65 ?_
            refine lv_if_ge (tgt := 101) hx hb dX7_readLifter_68 (by decide) (fun c21 => ?_) (fun c21 => ?_)
            · replace h := ite_t h c21
              obtain rfl := Option.some.inj h
              exact kk _ _ _ hW (lv_sub hl [0, 1, 2, 3] rfl)
            · replace h := ite_f h c21
              refine lv_aload_n hx hb dX7_readLifter_71 rfl (lv_at hl 1 rfl) ?_
              refine lv_iload hx hb dX7_readLifter_72 (lv_at hl 4 rfl) ?_
              obtain ⟨hi22, h⟩ := ck_of h
              refine wd_aldq hC hW 3 wC_c3 hi22 rfl dX7_readLifter_74 ?_
              refine wd_get hC i3 hW (4 + 3 * x4.toNatClampNeg) (wC_L (in_lt hi22)) rfl 1 (Nat.le_of_ble_eq_true rfl) f38 rfl rfl dX7_readLifter_75 ?_
              refine lv_aload_n hx hb dX7_readLifter_78 rfl (lv_at hl 3 rfl) ?_
              refine wd_get hC i3 hW (4 + 3 * x3) (wC_L hx3) rfl 1 (Nat.le_of_ble_eq_true rfl) f38 rfl rfl dX7_readLifter_79 ?_
              refine lv_icmp_ne (tgt := 95) hx hb dX7_readLifter_82 (by decide) (fun c23 => ?_) (fun c23 => ?_)
              · replace h := ite_f h c23
                refine lv_iinc (v := x4 + 1) (lv' := [(4, .int (x4 + 1)), (0, .ref (ad 1)), (1, .ref (ad 3)), (2, .int x2), (3, .ref (ad (4 + 3 * x3)))]) hx hb dX7_readLifter_95 hl (k := 4) rfl rfl (by decide) rfl (fun ls hl => ?_)
                refine lv_goto (tgt := 58) hx hb dX7_readLifter_98 (by decide) ?_
                exact ih S x2 x3 (x4 + 1) hx3 _ _ _ r h hW (lv_sub hl [1, 2, 3, 4, 0] rfl) kk
              · replace h := ite_t h c23
                refine lv_aload_n hx hb dX7_readLifter_85 rfl (lv_at hl 0 rfl) ?_
                refine lv_aload_n hx hb dX7_readLifter_86 rfl (lv_at hl 0 rfl) ?_
                refine wd_get hC i7 hW 1 wC_c1 rfl 2 (Nat.le_of_ble_eq_true rfl) f19 rfl rfl dX7_readLifter_87 ?_
                refine lv_iconst (v := 1) hx hb dX7_readLifter_90 (by decide) ?_
                refine lv_isub hx hb dX7_readLifter_91 ?_
                refine wd_put hC i7 tyX7_ok nmX7 hW 1 wC_c1 rfl 3 (Nat.le_of_ble_eq_true rfl) f22 rfl rfl rfl rfl (Nat.le_of_ble_eq_true rfl) wC_s1_3 dX7_readLifter_92 (fun H locs hW => ?_)
                obtain ⟨S24, e25, h⟩ := nm_of h
                replace hW := wq_S e25 hW
                refine lv_iinc (v := x4 + 1) (lv' := [(4, .int (x4 + 1)), (0, .ref (ad 1)), (1, .ref (ad 3)), (2, .int x2), (3, .ref (ad (4 + 3 * x3)))]) hx hb dX7_readLifter_95 hl (k := 4) rfl rfl (by decide) rfl (fun ls hl => ?_)
                refine lv_goto (tgt := 58) hx hb dX7_readLifter_98 (by decide) ?_
                exact ih S24 x2 x3 (x4 + 1) hx3 _ _ _ r h hW (lv_sub hl [1, 2, 3, 4, 0] rfl) kk
      obtain ⟨q18, hq19, h⟩ := bd_of h
      refine hL58 n S16 p1 p1.toNatClampNeg 0 (in_lt hi7) _ _ _ q18 hq19 hW (lv_sub hl [2, 3, 4, 1, 0] rfl) (fun H locs ls hW hl => ?_)
      refine lv_iconst (v := 0) hx hb dX7_readLifter_101 (by decide) ?_
      refine lv_istore (lv' := [(4, .int 0), (0, .ref (ad 1)), (1, .ref (ad 3)), (2, .int p1), (3, .ref (ad (4 + 3 * p1.toNatClampNeg)))]) hx hb dX7_readLifter_102 hl (by decide) rfl (fun ls hl => ?_)
      have hL104 : ∀ (n : Nat) (S : St) (x3 : Nat) (x4 : Int32) (hx3 : x3 < 7) (H : Heap) (locs : List Loc) (ls : Array Slot) (r : (St)), m_X7_readLifter_L104 n S x3 x4 = some r → Wd D cy A s (wC ad cy S ++ X) H locs → lv_has ls 5 [(0, .ref (ad 1)), (3, .ref (ad (4 + 3 * x3))), (4, .int x4)] → (∀ (H : Heap) (locs : List Loc) (ls : Array Slot), Wd D cy A s (wC ad cy r ++ X) H locs → lv_has ls 5 [(0, .ref (ad 1)), (3, .ref (ad (4 + 3 * x3)))] → W p l e (RM 3) s m args below meth c H locs 0 0 Q (F0 m 206 ls [])) → W p l e (RM 3) s m args below meth c H locs 0 0 Q (F0 m 104 ls []) := by
        intro n
        induction n with
        | zero =>
          intro S x3 x4 hx3 H locs ls r h
          exact absurd (h.symm.trans (m_X7_readLifter_L104_0 ..)) (by simp)
        | succ n ih =>
          intro S x3 x4 hx3 H locs ls r h hW hl kk
          rw [m_X7_readLifter_L104_s] at h
          refine lv_iload hx hb dX7_readLifter_104 (lv_at hl 2 rfl) ?_
          refine lv_iconst (v := 3) hx hb dX7_readLifter_106 (by decide) ?_
          refine lv_icmp_ge (tgt := 206) hx hb dX7_readLifter_107 (by decide) (fun c28 => ?_) (fun c28 => ?_)
          · replace h := ite_t h c28
            obtain rfl := Option.some.inj h
            exact kk _ _ _ hW (lv_sub hl [0, 1] rfl)
          · replace h := ite_f h c28
            refine lv_aload_n hx hb dX7_readLifter_110 rfl (lv_at hl 0 rfl) ?_
            refine wd_get hC i7 hW 1 wC_c1 rfl 3 (Nat.le_of_ble_eq_true rfl) f22 rfl rfl dX7_readLifter_111 ?_
            refine lv_if_ge (tgt := 206) hx hb dX7_readLifter_114 (by decide) (fun c29 => ?_) (fun c29 => ?_)
            · replace h := ite_t h c29
              obtain rfl := Option.some.inj h
              exact kk _ _ _ hW (lv_sub hl [0, 1] rfl)
            · replace h := ite_f h c29
              refine lv_aload_n hx hb dX7_readLifter_117 rfl (lv_at hl 0 rfl) ?_
              refine lv_bipush (v := 59) hx hb dX7_readLifter_118 (by decide) ?_
              obtain ⟨r30, hr31, h⟩ := bd_of h
              refine wd_callV0 (As := [.int 59]) hC hW 1 wC_c1 rfl (c_X7_readSign l D cy ad X S 59 r30 hr31) (cwV 1 hts (gu_V w_8_5 w_8_2 w_8_3 w_8_4 w_1_15) rfl rfl rfl hdX7_readSign ⟨Nat.le_of_ble_eq_true rfl, Nat.le_of_ble_eq_true rfl⟩) rfl hl.1 rfl (Nat.le_of_ble_eq_true rfl) ⟨Nat.zero_le _, Nat.zero_le _⟩ dX7_readLifter_120 (fun H locs hW => ?_)
              refine lv_aload_n hx hb dX7_readLifter_123 rfl (lv_at hl 0 rfl) ?_
              refine lv_aload_n hx hb dX7_readLifter_124 rfl (lv_at hl 1 rfl) ?_
              refine lv_iload hx hb dX7_readLifter_125 (lv_at hl 2 rfl) ?_
              obtain ⟨r32, hr33, h⟩ := bd_of h
              refine wd_callV0 (As := [.ref (ad (4 + 3 * x3)), .int x4]) hC hW 1 wC_c1 rfl (c_X7_readTable l D cy ad X n r30 x3 x4 r32 hr33 hx3) (cwV 2 hts (gu_V w_8_9 w_8_6 w_8_7 w_8_8 w_1_15) rfl rfl rfl hdX7_readTable ⟨Nat.le_of_ble_eq_true rfl, Nat.le_of_ble_eq_true rfl⟩) rfl hl.1 rfl (Nat.le_of_ble_eq_true rfl) ⟨Nat.zero_le _, Nat.zero_le _⟩ dX7_readLifter_127 (fun H locs hW => ?_)
              refine lv_aload_n hx hb dX7_readLifter_130 rfl (lv_at hl 0 rfl) ?_
              refine lv_bipush (v := 47) hx hb dX7_readLifter_131 (by decide) ?_
              obtain ⟨r34, hr35, h⟩ := bd_of h
              refine wd_callV0 (As := [.int 47]) hC hW 1 wC_c1 rfl (c_X7_readSign l D cy ad X r32 47 r34 hr35) (cwV 1 hts (gu_V w_8_5 w_8_2 w_8_3 w_8_4 w_1_15) rfl rfl rfl hdX7_readSign ⟨Nat.le_of_ble_eq_true rfl, Nat.le_of_ble_eq_true rfl⟩) rfl hl.1 rfl (Nat.le_of_ble_eq_true rfl) ⟨Nat.zero_le _, Nat.zero_le _⟩ dX7_readLifter_133 (fun H locs hW => ?_)
              refine lv_aload_n hx hb dX7_readLifter_136 rfl (lv_at hl 1 rfl) ?_
              refine wd_get hC i3 hW (4 + 3 * x3) (wC_L hx3) rfl 3 (Nat.le_of_ble_eq_true rfl) f45 rfl rfl dX7_readLifter_137 ?_
              refine lv_iload hx hb dX7_readLifter_140 (lv_at hl 2 rfl) ?_
              refine lv_iconst (v := 3) hx hb dX7_readLifter_142 (by decide) ?_
              refine lv_imul hx hb dX7_readLifter_143 ?_
              refine lv_aload_n hx hb dX7_readLifter_144 rfl (lv_at hl 0 rfl) ?_
              refine lv_iconst (v := 1) hx hb dX7_readLifter_145 (by decide) ?_
              refine lv_bipush (v := 40) hx hb dX7_readLifter_146 (by decide) ?_
              obtain ⟨r36, hr37, h⟩ := bd_of h
              refine wd_callV1 (As := [.int 1, .int 40]) hC hW 1 wC_c1 rfl (c_X7_readNumber l D cy ad X n r34 1 40 r36 hr37) (cwV 2 hts (gu_V w_7_22 w_7_19 w_7_20 w_7_21 w_1_15) rfl rfl rfl hdX7_readNumber ⟨Nat.le_of_ble_eq_true rfl, Nat.le_of_ble_eq_true rfl⟩) rfl hl.1 rfl (Nat.le_of_ble_eq_true rfl) ⟨Nat.zero_le _, Nat.zero_le _⟩ dX7_readLifter_148 (fun H locs hW => ?_)
              obtain ⟨hi38, h⟩ := ck_of h
              refine wd_iast hC hW (6 + 3 * x3) (wC_Lp hx3) hi38 (wC_Lp_t hx3) dX7_readLifter_151 (fun H locs hW => ?_)
              obtain ⟨S39, e40, h⟩ := nm_of h
              replace hW := wq_S e40 hW
              refine lv_aload_n hx hb dX7_readLifter_152 rfl (lv_at hl 0 rfl) ?_
              refine lv_bipush (v := 43) hx hb dX7_readLifter_153 (by decide) ?_
              obtain ⟨r41, hr42, h⟩ := bd_of h
              refine wd_callV0 (As := [.int 43]) hC hW 1 wC_c1 rfl (c_X7_readSign l D cy ad X S39 43 r41 hr42) (cwV 1 hts (gu_V w_8_5 w_8_2 w_8_3 w_8_4 w_1_15) rfl rfl rfl hdX7_readSign ⟨Nat.le_of_ble_eq_true rfl, Nat.le_of_ble_eq_true rfl⟩) rfl hl.1 rfl (Nat.le_of_ble_eq_true rfl) ⟨Nat.zero_le _, Nat.zero_le _⟩ dX7_readLifter_155 (fun H locs hW => ?_)
              refine lv_aload_n hx hb dX7_readLifter_158 rfl (lv_at hl 1 rfl) ?_
              refine wd_get hC i3 hW (4 + 3 * x3) (wC_L hx3) rfl 3 (Nat.le_of_ble_eq_true rfl) f45 rfl rfl dX7_readLifter_159 ?_
              refine lv_iload hx hb dX7_readLifter_162 (lv_at hl 2 rfl) ?_
              refine lv_iconst (v := 3) hx hb dX7_readLifter_164 (by decide) ?_
              refine lv_imul hx hb dX7_readLifter_165 ?_
              refine lv_iconst (v := 1) hx hb dX7_readLifter_166 (by decide) ?_
              refine lv_iadd hx hb dX7_readLifter_167 ?_
              refine lv_aload_n hx hb dX7_readLifter_168 rfl (lv_at hl 0 rfl) ?_
              refine lv_iconst (v := 1) hx hb dX7_readLifter_169 (by decide) ?_
              refine lv_bipush (v := 9) hx hb dX7_readLifter_170 (by decide) ?_
              obtain ⟨r43, hr44, h⟩ := bd_of h
              refine wd_callV1 (As := [.int 1, .int 9]) hC hW 1 wC_c1 rfl (c_X7_readNumber l D cy ad X n r41 1 9 r43 hr44) (cwV 2 hts (gu_V w_7_22 w_7_19 w_7_20 w_7_21 w_1_15) rfl rfl rfl hdX7_readNumber ⟨Nat.le_of_ble_eq_true rfl, Nat.le_of_ble_eq_true rfl⟩) rfl hl.1 rfl (Nat.le_of_ble_eq_true rfl) ⟨Nat.zero_le _, Nat.zero_le _⟩ dX7_readLifter_172 (fun H locs hW => ?_)
              obtain ⟨hi45, h⟩ := ck_of h
              refine wd_iast hC hW (6 + 3 * x3) (wC_Lp hx3) hi45 (wC_Lp_t hx3) dX7_readLifter_175 (fun H locs hW => ?_)
              obtain ⟨S46, e47, h⟩ := nm_of h
              replace hW := wq_S e47 hW
              refine lv_aload_n hx hb dX7_readLifter_176 rfl (lv_at hl 0 rfl) ?_
              refine lv_bipush (v := 43) hx hb dX7_readLifter_177 (by decide) ?_
              obtain ⟨r48, hr49, h⟩ := bd_of h
              refine wd_callV0 (As := [.int 43]) hC hW 1 wC_c1 rfl (c_X7_readSign l D cy ad X S46 43 r48 hr49) (cwV 1 hts (gu_V w_8_5 w_8_2 w_8_3 w_8_4 w_1_15) rfl rfl rfl hdX7_readSign ⟨Nat.le_of_ble_eq_true rfl, Nat.le_of_ble_eq_true rfl⟩) rfl hl.1 rfl (Nat.le_of_ble_eq_true rfl) ⟨Nat.zero_le _, Nat.zero_le _⟩ dX7_readLifter_179 (fun H locs hW => ?_)
              refine lv_aload_n hx hb dX7_readLifter_182 rfl (lv_at hl 1 rfl) ?_
              refine wd_get hC i3 hW (4 + 3 * x3) (wC_L hx3) rfl 3 (Nat.le_of_ble_eq_true rfl) f45 rfl rfl dX7_readLifter_183 ?_
              refine lv_iload hx hb dX7_readLifter_186 (lv_at hl 2 rfl) ?_
              refine lv_iconst (v := 3) hx hb dX7_readLifter_188 (by decide) ?_
              refine lv_imul hx hb dX7_readLifter_189 ?_
              refine lv_iconst (v := 2) hx hb dX7_readLifter_190 (by decide) ?_
              refine lv_iadd hx hb dX7_readLifter_191 ?_
              refine lv_aload_n hx hb dX7_readLifter_192 rfl (lv_at hl 0 rfl) ?_
              refine lv_iconst (v := 0) hx hb dX7_readLifter_193 (by decide) ?_
              refine lv_bipush (v := 9) hx hb dX7_readLifter_194 (by decide) ?_
              obtain ⟨r50, hr51, h⟩ := bd_of h
              refine wd_callV1 (As := [.int 0, .int 9]) hC hW 1 wC_c1 rfl (c_X7_readNumber l D cy ad X n r48 0 9 r50 hr51) (cwV 2 hts (gu_V w_7_22 w_7_19 w_7_20 w_7_21 w_1_15) rfl rfl rfl hdX7_readNumber ⟨Nat.le_of_ble_eq_true rfl, Nat.le_of_ble_eq_true rfl⟩) rfl hl.1 rfl (Nat.le_of_ble_eq_true rfl) ⟨Nat.zero_le _, Nat.zero_le _⟩ dX7_readLifter_196 (fun H locs hW => ?_)
              obtain ⟨hi52, h⟩ := ck_of h
              refine wd_iast hC hW (6 + 3 * x3) (wC_Lp hx3) hi52 (wC_Lp_t hx3) dX7_readLifter_199 (fun H locs hW => ?_)
              obtain ⟨S53, e54, h⟩ := nm_of h
              replace hW := wq_S e54 hW
              refine lv_iinc (v := x4 + 1) (lv' := [(4, .int (x4 + 1)), (0, .ref (ad 1)), (3, .ref (ad (4 + 3 * x3)))]) hx hb dX7_readLifter_200 hl (k := 2) rfl rfl (by decide) rfl (fun ls hl => ?_)
              refine lv_goto (tgt := 104) hx hb dX7_readLifter_203 (by decide) ?_
              exact ih S53 x3 (x4 + 1) hx3 _ _ _ r h hW (lv_sub hl [1, 2, 0] rfl) kk
      obtain ⟨q26, hq27, h⟩ := bd_of h
      refine hL104 n q18 p1.toNatClampNeg 0 (in_lt hi7) _ _ _ q26 hq27 hW (lv_sub hl [1, 4, 0] rfl) (fun H locs ls hW hl => ?_)
      refine lv_aload_n hx hb dX7_readLifter_206 rfl (lv_at hl 0 rfl) ?_
      refine wd_get hC i7 hW 1 wC_c1 rfl 3 (Nat.le_of_ble_eq_true rfl) f22 rfl rfl dX7_readLifter_207 ?_
      refine lv_if_ge (tgt := 232) hx hb dX7_readLifter_210 (by decide) (fun c55 => ?_) (fun c55 => ?_)
      · replace h := ite_t h c55
        refine lv_aload_n hx hb dX7_readLifter_232 rfl (lv_at hl 0 rfl) ?_
        refine wd_get hC i7 hW 1 wC_c1 rfl 3 (Nat.le_of_ble_eq_true rfl) f22 rfl rfl dX7_readLifter_233 ?_
        obtain rfl := Option.some.inj h
        exact wd_iret hA hQ hC hr hk hW dX7_readLifter_236
      · replace h := ite_f h c55
        refine lv_aload_n hx hb dX7_readLifter_213 rfl (lv_at hl 0 rfl) ?_
        refine wd_get hC i7 hW 1 wC_c1 rfl 2 (Nat.le_of_ble_eq_true rfl) f19 rfl rfl dX7_readLifter_214 ?_
        refine lv_aload_n hx hb dX7_readLifter_217 rfl (lv_at hl 0 rfl) ?_
        refine wd_get hC i7 hW 1 wC_c1 rfl 1 (Nat.le_of_ble_eq_true rfl) f15 rfl rfl dX7_readLifter_218 ?_
        refine lv_icmp_ge (tgt := 232) hx hb dX7_readLifter_221 (by decide) (fun c56 => ?_) (fun c56 => ?_)
        · replace h := ite_t h c56
          refine lv_aload_n hx hb dX7_readLifter_232 rfl (lv_at hl 0 rfl) ?_
          refine wd_get hC i7 hW 1 wC_c1 rfl 3 (Nat.le_of_ble_eq_true rfl) f22 rfl rfl dX7_readLifter_233 ?_
          obtain rfl := Option.some.inj h
          exact wd_iret hA hQ hC hr hk hW dX7_readLifter_236
        · replace h := ite_f h c56
          refine lv_aload_n hx hb dX7_readLifter_224 rfl (lv_at hl 0 rfl) ?_
          refine lv_aload_n hx hb dX7_readLifter_225 rfl (lv_at hl 0 rfl) ?_
          refine wd_get hC i7 hW 1 wC_c1 rfl 2 (Nat.le_of_ble_eq_true rfl) f19 rfl rfl dX7_readLifter_226 ?_
          refine wd_put hC i7 tyX7_ok nmX7 hW 1 wC_c1 rfl 3 (Nat.le_of_ble_eq_true rfl) f22 rfl rfl rfl rfl (Nat.le_of_ble_eq_true rfl) wC_s1_3 dX7_readLifter_229 (fun H locs hW => ?_)
          obtain ⟨S57, e58, h⟩ := nm_of h
          replace hW := wq_S e58 hW
          refine lv_aload_n hx hb dX7_readLifter_232 rfl (lv_at hl 0 rfl) ?_
          refine wd_get hC i7 hW 1 wC_c1 rfl 3 (Nat.le_of_ble_eq_true rfl) f22 rfl rfl dX7_readLifter_233 ?_
          obtain rfl := Option.some.inj h
          exact wd_iret hA hQ hC hr hk hW dX7_readLifter_236
    · replace h := ite_f h c6
      refine lv_iconst (v := 0) hx hb dX7_readLifter_20 (by decide) ?_
      obtain rfl := Option.some.inj h
      exact wd_iret hA hQ hC hr hk hW dX7_readLifter_21
