theorem hdX1_chosen : yX1_chosen.cls = RX1 ∧ yX1_chosen.cls ≠ "java/lang/invoke/MethodHandle" ∧ yX1_chosen.cls ≠ "java/lang/invoke/VarHandle" ∧ (parseMethodDescriptor yX1_chosen.desc).map (fun d => d.parameters.length) = some 2 := by decide +kernel
theorem hdX1_meetUp : yX1_meetUp.cls = RX1 ∧ yX1_meetUp.cls ≠ "java/lang/invoke/MethodHandle" ∧ yX1_meetUp.cls ≠ "java/lang/invoke/VarHandle" ∧ (parseMethodDescriptor yX1_meetUp.desc).map (fun d => d.parameters.length) = some 3 := by decide +kernel
theorem hdX1_solve : yX1_solve.cls = RX1 ∧ yX1_solve.cls ≠ "java/lang/invoke/MethodHandle" ∧ yX1_solve.cls ≠ "java/lang/invoke/VarHandle" ∧ (parseMethodDescriptor yX1_solve.desc).map (fun d => d.parameters.length) = some 2 := by decide +kernel
theorem hdX8_fight : yX8_fight.cls = RX8 ∧ yX8_fight.cls ≠ "java/lang/invoke/MethodHandle" ∧ yX8_fight.cls ≠ "java/lang/invoke/VarHandle" ∧ (parseMethodDescriptor yX8_fight.desc).map (fun d => d.parameters.length) = some 5 := by decide +kernel
def m_X8_fight (n : Nat) (S : St) (P : St) (p0 : Int32) (p1 : Int32) (p2 : Int32) (p3 : Int32) (p4 : Int32) : Option (Int32 × St × St) :=
  if (S.1 32) = 2 then (if (S.1 33) = 2 then ((m_X4_waits 30 25 S p0).bind (fun r3 => if r3 = 0 then (some ((-3), S, P)) else ((m_X4_waits 30 25 S p1).bind (fun r6 => if r6 = 0 then (some ((-3), S, P)) else (onw (S.2.2.2 3) 1 (fun j9 => onw (S.2.2.2 3) 1 (fun j12 => (m_X1_meetUp n S P p0 p1).bind (fun r15 => onw (S.2.2.2 3) 1 (fun j17 => (m_X1_solve n S r15 p2 p3).bind (fun r20 => onw (S.2.2.2 3) 1 (fun j22 => (m_X1_firstCalled S r20.2).bind (fun r25 => ((if r25 = 0 then (some p1.toInt64) else (some p0.toInt64) : Option (Int64))).bind (fun q28 => ck 0 9 (nm (sJ S 58 ((0 : Int32).toNatClampNeg) q28) (fun S31 => onw (S31.2.2.2 3) 1 (fun j33 => (m_X1_chosen n S31 r20.2 p2 p3).bind (fun r36 => ck 1 9 (nm (sJ S31 58 ((1 : Int32).toNatClampNeg) r36.toInt64) (fun S39 => onw (S39.2.2.2 3) 1 (fun j41 => (m_X1_valueAt S39 r20.2 0 0).bind (fun r44 => ck 2 9 (nm (sJ S39 58 ((2 : Int32).toNatClampNeg) r44.toInt64) (fun S47 => nm (sI S47 0 p4) (fun S49 => some (r20.1, S49, r20.2))))))))))))))))))))))))) else (some ((-2), S, P))) else (some ((-2), S, P))
set_option maxHeartbeats 4000000 in
set_option maxRecDepth 100000 in
theorem c_X8_fight (l : Launch) (D : va_G) (cy : Nat → ClassId) (ad : Nat → Nat) (X : va_W) (n : Nat) (S : St) (P : St) (p0 : Int32) (p1 : Int32) (p2 : Int32) (p3 : Int32) (p4 : Int32) (r : (Int32 × St × St)) (h : m_X8_fight n S P p0 p1 p2 p3 p4 = some r) : CT l yX8_fight (wu yX8_fight cX8_fight 7 (some .int)) 4 D cy [.ref (ad 0), .int p0, .int p1, .int p2, .int p3, .int p4] (wC ad cy S ++ (wP ad cy P ++ X)) (some (.int r.1)) (wC ad cy r.2.1 ++ (wP ad cy r.2.2 ++ X)) := by
  refine CT.mk (cc := cX8_fight) (maxL := 7) (ret := (some .int)) (own := RX8) (by decide) rfl rfl (Nat.le_of_ble_eq_true rfl) ?_
  intro p e s m args below meth c ls A Q hA hQ hC hr hk hW hl
  have hx := hC.1
  have hb := hC.2.1
  have hown := hC.2.2.2.1
  have hts := hC.2.2.2.2
  have hl : lv_has ls 7 [(0, .ref (ad 0)), (1, .int p0), (2, .int p1), (3, .int p2), (4, .int p3), (5, .int p4)] := hl
  have f28 := hts _ (wu_in w_2_0)
  have i8 := (fun w h => wu_in (inc_8 w h) : ∀ w ∈ u_ws RX8 TX8 12, w ∈ (wu yX8_fight cX8_fight 7 (some .int)))
  have f260 := hts _ (wu_in w_42_22)
  have i4 := (fun w h => wu_in (inc_4 w h) : ∀ w ∈ u_ws RX4 TX4 16, w ∈ (wu yX8_fight cX8_fight 7 (some .int)))
  have f263 := hts _ (wu_in w_42_23)
  have f73 := hts _ (wu_in w_2_20)
  have f61 := hts _ (wu_in w_2_17)
  have f65 := hts _ (wu_in w_2_18)
  unfold m_X8_fight at h
  refine lv_aload_n hx hb dX8_fight_0 rfl (lv_at hl 0 rfl) ?_
  refine wd_get hC i8 hW 0 wC_c0 rfl 2 (Nat.le_of_ble_eq_true rfl) f28 rfl rfl dX8_fight_1 ?_
  refine wd_get hC i4 hW 25 wC_c25 rfl 3 (Nat.le_of_ble_eq_true rfl) f260 rfl rfl dX8_fight_4 ?_
  refine lv_iconst (v := 2) hx hb dX8_fight_7 (by decide) ?_
  refine lv_icmp_ne (tgt := 22) hx hb dX8_fight_8 (by decide) (fun c1 => ?_) (fun c1 => ?_)
  · replace h := ite_f h c1
    refine lv_bipush (v := (-2)) hx hb dX8_fight_22 (by decide) ?_
    obtain rfl := Option.some.inj h
    exact wd_iret hA hQ hC hr hk hW dX8_fight_24
  · replace h := ite_t h c1
    refine lv_aload_n hx hb dX8_fight_11 rfl (lv_at hl 0 rfl) ?_
    refine wd_get hC i8 hW 0 wC_c0 rfl 2 (Nat.le_of_ble_eq_true rfl) f28 rfl rfl dX8_fight_12 ?_
    refine wd_get hC i4 hW 25 wC_c25 rfl 4 (Nat.le_of_ble_eq_true rfl) f263 rfl rfl dX8_fight_15 ?_
    refine lv_iconst (v := 2) hx hb dX8_fight_18 (by decide) ?_
    refine lv_icmp_eq (tgt := 25) hx hb dX8_fight_19 (by decide) (fun c2 => ?_) (fun c2 => ?_)
    · replace h := ite_t h c2
      refine lv_aload_n hx hb dX8_fight_25 rfl (lv_at hl 0 rfl) ?_
      refine wd_get hC i8 hW 0 wC_c0 rfl 2 (Nat.le_of_ble_eq_true rfl) f28 rfl rfl dX8_fight_26 ?_
      refine lv_iload_n hx hb dX8_fight_29 rfl (lv_at hl 1 rfl) ?_
      obtain ⟨r3, hr4, h⟩ := bd_of h
      refine wd_callV1 (As := [.int p0]) hC hW 25 wC_c25 rfl (c_X4_waitsM l D cy ad (wP ad cy P ++ X) S p0 r3 hr4) (cwV 1 hts (gu_V w_16_23 w_16_20 w_16_21 w_16_22 w_1_23) rfl rfl rfl hdX4_waits ⟨Nat.le_of_ble_eq_true rfl, Nat.le_of_ble_eq_true rfl⟩) rfl hl.1 rfl (Nat.le_of_ble_eq_true rfl) ⟨Nat.zero_le _, Nat.zero_le _⟩ dX8_fight_30 (fun H locs hW => ?_)
      refine lv_if_eq (tgt := 47) hx hb dX8_fight_33 (by decide) (fun c5 => ?_) (fun c5 => ?_)
      · replace h := ite_t h c5
        refine lv_bipush (v := (-3)) hx hb dX8_fight_47 (by decide) ?_
        obtain rfl := Option.some.inj h
        exact wd_iret hA hQ hC hr hk hW dX8_fight_49
      · replace h := ite_f h c5
        refine lv_aload_n hx hb dX8_fight_36 rfl (lv_at hl 0 rfl) ?_
        refine wd_get hC i8 hW 0 wC_c0 rfl 2 (Nat.le_of_ble_eq_true rfl) f28 rfl rfl dX8_fight_37 ?_
        refine lv_iload_n hx hb dX8_fight_40 rfl (lv_at hl 2 rfl) ?_
        obtain ⟨r6, hr7, h⟩ := bd_of h
        refine wd_callV1 (As := [.int p1]) hC hW 25 wC_c25 rfl (c_X4_waitsM l D cy ad (wP ad cy P ++ X) S p1 r6 hr7) (cwV 1 hts (gu_V w_16_23 w_16_20 w_16_21 w_16_22 w_1_23) rfl rfl rfl hdX4_waits ⟨Nat.le_of_ble_eq_true rfl, Nat.le_of_ble_eq_true rfl⟩) rfl hl.1 rfl (Nat.le_of_ble_eq_true rfl) ⟨Nat.zero_le _, Nat.zero_le _⟩ dX8_fight_41 (fun H locs hW => ?_)
        refine lv_if_ne (tgt := 50) hx hb dX8_fight_44 (by decide) (fun c8 => ?_) (fun c8 => ?_)
        · replace h := ite_f h c8
          refine lv_aload_n hx hb dX8_fight_50 rfl (lv_at hl 0 rfl) ?_
          obtain ⟨j9, ej10, hj11, h⟩ := onw_of h
          refine wd_get (v := .ref (ad 81)) hC i8 hW 0 wC_c0 rfl 11 (Nat.le_of_ble_eq_true rfl) f73 rfl (congrArg some (by rw [ej10]; rfl)) dX8_fight_51 ?_
          refine lv_ifnonnull (tgt := 68) hx hb dX8_fight_54 (by decide) ?_
          refine lv_aload_n hx hb dX8_fight_68 rfl (lv_at hl 0 rfl) ?_
          obtain ⟨j12, ej13, hj14, h⟩ := onw_of h
          refine wd_get (v := .ref (ad 81)) hC i8 hW 0 wC_c0 rfl 11 (Nat.le_of_ble_eq_true rfl) f73 rfl (congrArg some (by rw [ej13]; rfl)) dX8_fight_69 ?_
          refine lv_aload_n hx hb dX8_fight_72 rfl (lv_at hl 0 rfl) ?_
          refine wd_get hC i8 hW 0 wC_c0 rfl 2 (Nat.le_of_ble_eq_true rfl) f28 rfl rfl dX8_fight_73 ?_
          refine lv_iload_n hx hb dX8_fight_76 rfl (lv_at hl 1 rfl) ?_
          refine lv_iload_n hx hb dX8_fight_77 rfl (lv_at hl 2 rfl) ?_
          obtain ⟨r15, hr16, h⟩ := bd_of h
          refine wd_callV0 (As := [.ref (ad 25), .int p0, .int p1]) hC hW 59 wP_c81 rfl (c_X1_meetUp l D cy ad X n S P p0 p1 r15 hr16) (cwV 3 hts (gu_V w_44_1 w_43_22 w_43_23 w_44_0 w_43_2) rfl rfl rfl hdX1_meetUp ⟨Nat.le_of_ble_eq_true rfl, Nat.le_of_ble_eq_true rfl⟩) rfl hl.1 rfl (Nat.le_of_ble_eq_true rfl) ⟨Nat.zero_le _, Nat.zero_le _⟩ dX8_fight_78 (fun H locs hW => ?_)
          refine lv_aload_n hx hb dX8_fight_81 rfl (lv_at hl 0 rfl) ?_
          obtain ⟨j17, ej18, hj19, h⟩ := onw_of h
          refine wd_get (v := .ref (ad 81)) hC i8 hW 0 wC_c0 rfl 11 (Nat.le_of_ble_eq_true rfl) f73 rfl (congrArg some (by rw [ej18]; rfl)) dX8_fight_82 ?_
          refine lv_iload_n hx hb dX8_fight_85 rfl (lv_at hl 3 rfl) ?_
          refine lv_iload hx hb dX8_fight_86 (lv_at hl 4 rfl) ?_
          obtain ⟨r20, hr21, h⟩ := bd_of h
          refine wd_callV1 (As := [.int p2, .int p3]) hC hW 59 wP_c81 rfl (c_X1_solve l D cy ad X n S r15 p2 p3 r20 hr21) (cwV 2 hts (gu_V w_45_0 w_44_21 w_44_22 w_44_23 w_43_2) rfl rfl rfl hdX1_solve ⟨Nat.le_of_ble_eq_true rfl, Nat.le_of_ble_eq_true rfl⟩) rfl hl.1 rfl (Nat.le_of_ble_eq_true rfl) ⟨Nat.zero_le _, Nat.zero_le _⟩ dX8_fight_88 (fun H locs hW => ?_)
          refine lv_istore (lv' := [(6, .int r20.1), (0, .ref (ad 0)), (1, .int p0), (2, .int p1), (3, .int p2), (4, .int p3), (5, .int p4)]) hx hb dX8_fight_91 hl (by decide) rfl (fun ls hl => ?_)
          refine lv_aload_n hx hb dX8_fight_93 rfl (lv_at hl 1 rfl) ?_
          refine wd_get hC i8 hW 0 wC_c0 rfl 8 (Nat.le_of_ble_eq_true rfl) f61 rfl rfl dX8_fight_94 ?_
          refine lv_iconst (v := 0) hx hb dX8_fight_97 (by decide) ?_
          refine lv_aload_n hx hb dX8_fight_98 rfl (lv_at hl 1 rfl) ?_
          obtain ⟨j22, ej23, hj24, h⟩ := onw_of h
          refine wd_get (v := .ref (ad 81)) hC i8 hW 0 wC_c0 rfl 11 (Nat.le_of_ble_eq_true rfl) f73 rfl (congrArg some (by rw [ej23]; rfl)) dX8_fight_99 ?_
          obtain ⟨r25, hr26, h⟩ := bd_of h
          refine wd_callV1 (As := []) hC hW 59 wP_c81 rfl (c_X1_firstCalled l D cy ad X S r20.2 r25 hr26) (cwV 0 hts (gu_V w_46_1 w_45_22 w_45_23 w_46_0 w_43_2) rfl rfl rfl hdX1_firstCalled ⟨Nat.le_of_ble_eq_true rfl, Nat.le_of_ble_eq_true rfl⟩) rfl hl.1 rfl (Nat.le_of_ble_eq_true rfl) ⟨Nat.zero_le _, Nat.zero_le _⟩ dX8_fight_102 (fun H locs hW => ?_)
          obtain ⟨q28, hq29, h⟩ := bd_of h
          have hJ115 : ∀ (H : Heap) (locs : List Loc) (ls : Array Slot), Wd D cy A s (wC ad cy S ++ (wP ad cy r20.2 ++ X)) H locs → lv_has ls 7 [(6, .int r20.1), (0, .ref (ad 0)), (1, .int p0), (2, .int p1), (3, .int p2), (4, .int p3), (5, .int p4)] → W p l e (RM 4) s m args below meth c H locs 0 0 Q (F0 m 115 ls [.long q28, .int 0, .ref (ad 58)]) := by
            intro H locs ls hW hl
            obtain ⟨hi30, h⟩ := ck_of h
            refine wd_last hC hW 58 wC_c58 hi30 wC_t58 dX8_fight_115 (fun H locs hW => ?_)
            obtain ⟨S31, e32, h⟩ := nm_of h
            replace hW := wq_S e32 hW
            refine lv_aload_n hx hb dX8_fight_116 rfl (lv_at hl 1 rfl) ?_
            refine wd_get hC i8 hW 0 wC_c0 rfl 8 (Nat.le_of_ble_eq_true rfl) f61 rfl rfl dX8_fight_117 ?_
            refine lv_iconst (v := 1) hx hb dX8_fight_120 (by decide) ?_
            refine lv_aload_n hx hb dX8_fight_121 rfl (lv_at hl 1 rfl) ?_
            obtain ⟨j33, ej34, hj35, h⟩ := onw_of h
            refine wd_get (v := .ref (ad 81)) hC i8 hW 0 wC_c0 rfl 11 (Nat.le_of_ble_eq_true rfl) f73 rfl (congrArg some (by rw [ej34]; rfl)) dX8_fight_122 ?_
            refine lv_iload_n hx hb dX8_fight_125 rfl (lv_at hl 4 rfl) ?_
            refine lv_iload hx hb dX8_fight_126 (lv_at hl 5 rfl) ?_
            obtain ⟨r36, hr37, h⟩ := bd_of h
            refine wd_callV1 (As := [.int p2, .int p3]) hC hW 59 wP_c81 rfl (c_X1_chosen l D cy ad X n S31 r20.2 p2 p3 r36 hr37) (cwV 2 hts (gu_V w_46_5 w_46_2 w_46_3 w_46_4 w_43_2) rfl rfl rfl hdX1_chosen ⟨Nat.le_of_ble_eq_true rfl, Nat.le_of_ble_eq_true rfl⟩) rfl hl.1 rfl (Nat.le_of_ble_eq_true rfl) ⟨Nat.zero_le _, Nat.zero_le _⟩ dX8_fight_128 (fun H locs hW => ?_)
            refine lv_i2l (v := r36.toInt64) hx hb dX8_fight_131 rfl ?_
            obtain ⟨hi38, h⟩ := ck_of h
            refine wd_last hC hW 58 wC_c58 hi38 wC_t58 dX8_fight_132 (fun H locs hW => ?_)
            obtain ⟨S39, e40, h⟩ := nm_of h
            replace hW := wq_S e40 hW
            refine lv_aload_n hx hb dX8_fight_133 rfl (lv_at hl 1 rfl) ?_
            refine wd_get hC i8 hW 0 wC_c0 rfl 8 (Nat.le_of_ble_eq_true rfl) f61 rfl rfl dX8_fight_134 ?_
            refine lv_iconst (v := 2) hx hb dX8_fight_137 (by decide) ?_
            refine lv_aload_n hx hb dX8_fight_138 rfl (lv_at hl 1 rfl) ?_
            obtain ⟨j41, ej42, hj43, h⟩ := onw_of h
            refine wd_get (v := .ref (ad 81)) hC i8 hW 0 wC_c0 rfl 11 (Nat.le_of_ble_eq_true rfl) f73 rfl (congrArg some (by rw [ej42]; rfl)) dX8_fight_139 ?_
            refine lv_iconst (v := 0) hx hb dX8_fight_142 (by decide) ?_
            refine lv_iconst (v := 0) hx hb dX8_fight_143 (by decide) ?_
            obtain ⟨r44, hr45, h⟩ := bd_of h
            refine wd_callV1 (As := [.int 0, .int 0]) hC hW 59 wP_c81 rfl (c_X1_valueAt l D cy ad X S39 r20.2 0 0 r44 hr45) (cwV 2 hts (gu_V w_45_21 w_46_7 w_45_19 w_45_20 w_43_2) rfl rfl rfl hdX1_valueAt ⟨Nat.le_of_ble_eq_true rfl, Nat.le_of_ble_eq_true rfl⟩) rfl hl.1 rfl (Nat.le_of_ble_eq_true rfl) ⟨Nat.zero_le _, Nat.zero_le _⟩ dX8_fight_144 (fun H locs hW => ?_)
            refine lv_i2l (v := r44.toInt64) hx hb dX8_fight_147 rfl ?_
            obtain ⟨hi46, h⟩ := ck_of h
            refine wd_last hC hW 58 wC_c58 hi46 wC_t58 dX8_fight_148 (fun H locs hW => ?_)
            obtain ⟨S47, e48, h⟩ := nm_of h
            replace hW := wq_S e48 hW
            refine lv_aload_n hx hb dX8_fight_149 rfl (lv_at hl 1 rfl) ?_
            refine lv_iload hx hb dX8_fight_150 (lv_at hl 6 rfl) ?_
            refine wd_put hC i8 tyX8_ok nmX8 hW 0 wC_c0 rfl 9 (Nat.le_of_ble_eq_true rfl) f65 rfl rfl rfl rfl (Nat.le_of_ble_eq_true rfl) wC_s0_9 dX8_fight_152 (fun H locs hW => ?_)
            obtain ⟨S49, e50, h⟩ := nm_of h
            replace hW := wq_S e50 hW
            refine lv_iload hx hb dX8_fight_155 (lv_at hl 0 rfl) ?_
            obtain rfl := Option.some.inj h
            exact wd_iret hA hQ hC hr hk hW dX8_fight_157
          replace h := hq29
          refine lv_if_eq (tgt := 113) hx hb dX8_fight_105 (by decide) (fun c27 => ?_) (fun c27 => ?_)
          · replace h := ite_t h c27
            refine lv_iload_n hx hb dX8_fight_113 rfl (lv_at hl 3 rfl) ?_
            refine lv_i2l (v := p1.toInt64) hx hb dX8_fight_114 rfl ?_
            obtain rfl := Option.some.inj h
            exact hJ115 _ _ _ hW (lv_sub hl [0, 1, 2, 3, 4, 5, 6] rfl)
          · replace h := ite_f h c27
            refine lv_iload_n hx hb dX8_fight_108 rfl (lv_at hl 2 rfl) ?_
            refine lv_i2l (v := p0.toInt64) hx hb dX8_fight_109 rfl ?_
            refine lv_goto (tgt := 115) hx hb dX8_fight_110 (by decide) ?_
            obtain rfl := Option.some.inj h
            exact hJ115 _ _ _ hW (lv_sub hl [0, 1, 2, 3, 4, 5, 6] rfl)
        · replace h := ite_t h c8
          refine lv_bipush (v := (-3)) hx hb dX8_fight_47 (by decide) ?_
          obtain rfl := Option.some.inj h
          exact wd_iret hA hQ hC hr hk hW dX8_fight_49
    · replace h := ite_f h c2
      refine lv_bipush (v := (-2)) hx hb dX8_fight_22 (by decide) ?_
      obtain rfl := Option.some.inj h
      exact wd_iret hA hQ hC hr hk hW dX8_fight_24
def m_X8_duel (n : Nat) (S : St) (P : St) (p0 : Int32) (p1 : Int32) : Option (Int32 × St × St) :=
  (m_X8_isLifter S p0).bind (fun r1 => if r1 = 0 then (some ((-1), S, P)) else ((m_X8_isLifter S p1).bind (fun r4 => if r4 = 0 then (some ((-1), S, P)) else (if p0 = p1 then (some ((-1), S, P)) else (ck p0 6 (ck p1 6 ((m_X8_fight n S P p0 p1 (S.2.1 28 p0.toNatClampNeg) (S.2.1 28 p1.toNatClampNeg) 3).bind (fun r10 => some (r10.1, r10.2.1, r10.2.2)))))))))
set_option maxHeartbeats 4000000 in
set_option maxRecDepth 100000 in
theorem c_X8_duel (l : Launch) (D : va_G) (cy : Nat → ClassId) (ad : Nat → Nat) (X : va_W) (n : Nat) (S : St) (P : St) (p0 : Int32) (p1 : Int32) (r : (Int32 × St × St)) (h : m_X8_duel n S P p0 p1 = some r) : CT l yX8_duel (wu yX8_duel cX8_duel 3 (some .int)) 5 D cy [.ref (ad 0), .int p0, .int p1] (wC ad cy S ++ (wP ad cy P ++ X)) (some (.int r.1)) (wC ad cy r.2.1 ++ (wP ad cy r.2.2 ++ X)) := by
  refine CT.mk (cc := cX8_duel) (maxL := 3) (ret := (some .int)) (own := RX8) (by decide) rfl rfl (Nat.le_of_ble_eq_true rfl) ?_
  intro p e s m args below meth c ls A Q hA hQ hC hr hk hW hl
  have hx := hC.1
  have hb := hC.2.1
  have hown := hC.2.2.2.1
  have hts := hC.2.2.2.2
  have hl : lv_has ls 3 [(0, .ref (ad 0)), (1, .int p0), (2, .int p1)] := hl
  have f28 := hts _ (wu_in w_2_0)
  have i8 := (fun w h => wu_in (inc_8 w h) : ∀ w ∈ u_ws RX8 TX8 12, w ∈ (wu yX8_duel cX8_duel 3 (some .int)))
  have f137 := hts _ (wu_in w_16_13)
  have i4 := (fun w h => wu_in (inc_4 w h) : ∀ w ∈ u_ws RX4 TX4 16, w ∈ (wu yX8_duel cX8_duel 3 (some .int)))
  unfold m_X8_duel at h
  refine lv_aload_n hx hb dX8_duel_0 rfl (lv_at hl 0 rfl) ?_
  refine lv_iload_n hx hb dX8_duel_1 rfl (lv_at hl 1 rfl) ?_
  obtain ⟨r1, hr2, h⟩ := bd_of h
  refine wd_callV1 (As := [.int p0]) hC hW 0 wC_c0 rfl (c_X8_isLifter l D cy ad (wP ad cy P ++ X) S p0 r1 hr2) (cwV 1 hts (gu_V w_13_9 w_13_6 w_13_7 w_13_8 w_1_2) rfl rfl rfl hdX8_isLifter ⟨Nat.le_of_ble_eq_true rfl, Nat.le_of_ble_eq_true rfl⟩) rfl hl.1 rfl (Nat.le_of_ble_eq_true rfl) ⟨Nat.zero_le _, Nat.zero_le _⟩ dX8_duel_2 (fun H locs hW => ?_)
  refine lv_if_eq (tgt := 21) hx hb dX8_duel_5 (by decide) (fun c3 => ?_) (fun c3 => ?_)
  · replace h := ite_t h c3
    refine lv_iconst (v := (-1)) hx hb dX8_duel_21 (by decide) ?_
    obtain rfl := Option.some.inj h
    exact wd_iret hA hQ hC hr hk hW dX8_duel_22
  · replace h := ite_f h c3
    refine lv_aload_n hx hb dX8_duel_8 rfl (lv_at hl 0 rfl) ?_
    refine lv_iload_n hx hb dX8_duel_9 rfl (lv_at hl 2 rfl) ?_
    obtain ⟨r4, hr5, h⟩ := bd_of h
    refine wd_callV1 (As := [.int p1]) hC hW 0 wC_c0 rfl (c_X8_isLifter l D cy ad (wP ad cy P ++ X) S p1 r4 hr5) (cwV 1 hts (gu_V w_13_9 w_13_6 w_13_7 w_13_8 w_1_2) rfl rfl rfl hdX8_isLifter ⟨Nat.le_of_ble_eq_true rfl, Nat.le_of_ble_eq_true rfl⟩) rfl hl.1 rfl (Nat.le_of_ble_eq_true rfl) ⟨Nat.zero_le _, Nat.zero_le _⟩ dX8_duel_10 (fun H locs hW => ?_)
    refine lv_if_eq (tgt := 21) hx hb dX8_duel_13 (by decide) (fun c6 => ?_) (fun c6 => ?_)
    · replace h := ite_t h c6
      refine lv_iconst (v := (-1)) hx hb dX8_duel_21 (by decide) ?_
      obtain rfl := Option.some.inj h
      exact wd_iret hA hQ hC hr hk hW dX8_duel_22
    · replace h := ite_f h c6
      refine lv_iload_n hx hb dX8_duel_16 rfl (lv_at hl 1 rfl) ?_
      refine lv_iload_n hx hb dX8_duel_17 rfl (lv_at hl 2 rfl) ?_
      refine lv_icmp_ne (tgt := 23) hx hb dX8_duel_18 (by decide) (fun c7 => ?_) (fun c7 => ?_)
      · replace h := ite_f h c7
        refine lv_aload_n hx hb dX8_duel_23 rfl (lv_at hl 0 rfl) ?_
        refine lv_iload_n hx hb dX8_duel_24 rfl (lv_at hl 1 rfl) ?_
        refine lv_iload_n hx hb dX8_duel_25 rfl (lv_at hl 2 rfl) ?_
        refine lv_aload_n hx hb dX8_duel_26 rfl (lv_at hl 0 rfl) ?_
        refine wd_get hC i8 hW 0 wC_c0 rfl 2 (Nat.le_of_ble_eq_true rfl) f28 rfl rfl dX8_duel_27 ?_
        refine wd_get hC i4 hW 25 wC_c25 rfl 8 (Nat.le_of_ble_eq_true rfl) f137 rfl rfl dX8_duel_30 ?_
        refine lv_iload_n hx hb dX8_duel_33 rfl (lv_at hl 1 rfl) ?_
        obtain ⟨hi8, h⟩ := ck_of h
        refine wd_iald hC hW 28 wC_c28 hi8 dX8_duel_34 ?_
        refine lv_aload_n hx hb dX8_duel_35 rfl (lv_at hl 0 rfl) ?_
        refine wd_get hC i8 hW 0 wC_c0 rfl 2 (Nat.le_of_ble_eq_true rfl) f28 rfl rfl dX8_duel_36 ?_
        refine wd_get hC i4 hW 25 wC_c25 rfl 8 (Nat.le_of_ble_eq_true rfl) f137 rfl rfl dX8_duel_39 ?_
        refine lv_iload_n hx hb dX8_duel_42 rfl (lv_at hl 2 rfl) ?_
        obtain ⟨hi9, h⟩ := ck_of h
        refine wd_iald hC hW 28 wC_c28 hi9 dX8_duel_43 ?_
        refine lv_iconst (v := 3) hx hb dX8_duel_44 (by decide) ?_
        obtain ⟨r10, hr11, h⟩ := bd_of h
        refine wd_callV1 (As := [.int p0, .int p1, .int (S.2.1 28 p0.toNatClampNeg), .int (S.2.1 28 p1.toNatClampNeg), .int 3]) hC hW 0 wC_c0 rfl (c_X8_fight l D cy ad X n S P p0 p1 (S.2.1 28 p0.toNatClampNeg) (S.2.1 28 p1.toNatClampNeg) 3 r10 hr11) (cwV 5 hts (gu_V w_42_21 w_42_18 w_42_19 w_42_20 w_1_2) rfl rfl rfl hdX8_fight ⟨Nat.le_of_ble_eq_true rfl, Nat.le_of_ble_eq_true rfl⟩) rfl hl.1 rfl (Nat.le_of_ble_eq_true rfl) ⟨Nat.zero_le _, Nat.zero_le _⟩ dX8_duel_45 (fun H locs hW => ?_)
        obtain rfl := Option.some.inj h
        exact wd_iret hA hQ hC hr hk hW dX8_duel_48
      · replace h := ite_t h c7
        refine lv_iconst (v := (-1)) hx hb dX8_duel_21 (by decide) ?_
        obtain rfl := Option.some.inj h
        exact wd_iret hA hQ hC hr hk hW dX8_duel_22
def m_X8_bluff (n : Nat) (S : St) (P : St) (p0 : Int32) (p1 : Int32) (p2 : Int32) (p3 : Int32) : Option (Int32 × St × St) :=
  (m_X8_isLifter S p0).bind (fun r1 => if r1 = 0 then (some ((-1), S, P)) else ((m_X8_isLifter S p1).bind (fun r4 => if r4 = 0 then (some ((-1), S, P)) else (if p0 = p1 then (some ((-1), S, P)) else (if p2 < 0 then (some ((-1), S, P)) else (if 2 < p2 then (some ((-1), S, P)) else (if p3 < 0 then (some ((-1), S, P)) else (if p3 ≤ 2 then ((m_X8_fight n S P p0 p1 p2 p3 2).bind (fun r12 => some (r12.1, r12.2.1, r12.2.2))) else (some ((-1), S, P))))))))))
set_option maxHeartbeats 4000000 in
set_option maxRecDepth 100000 in
theorem c_X8_bluff (l : Launch) (D : va_G) (cy : Nat → ClassId) (ad : Nat → Nat) (X : va_W) (n : Nat) (S : St) (P : St) (p0 : Int32) (p1 : Int32) (p2 : Int32) (p3 : Int32) (r : (Int32 × St × St)) (h : m_X8_bluff n S P p0 p1 p2 p3 = some r) : CT l yX8_bluff (wu yX8_bluff cX8_bluff 5 (some .int)) 5 D cy [.ref (ad 0), .int p0, .int p1, .int p2, .int p3] (wC ad cy S ++ (wP ad cy P ++ X)) (some (.int r.1)) (wC ad cy r.2.1 ++ (wP ad cy r.2.2 ++ X)) := by
  refine CT.mk (cc := cX8_bluff) (maxL := 5) (ret := (some .int)) (own := RX8) (by decide) rfl rfl (Nat.le_of_ble_eq_true rfl) ?_
  intro p e s m args below meth c ls A Q hA hQ hC hr hk hW hl
  have hx := hC.1
  have hb := hC.2.1
  have hown := hC.2.2.2.1
  have hts := hC.2.2.2.2
  have hl : lv_has ls 5 [(0, .ref (ad 0)), (1, .int p0), (2, .int p1), (3, .int p2), (4, .int p3)] := hl
  unfold m_X8_bluff at h
  refine lv_aload_n hx hb dX8_bluff_0 rfl (lv_at hl 0 rfl) ?_
  refine lv_iload_n hx hb dX8_bluff_1 rfl (lv_at hl 1 rfl) ?_
  obtain ⟨r1, hr2, h⟩ := bd_of h
  refine wd_callV1 (As := [.int p0]) hC hW 0 wC_c0 rfl (c_X8_isLifter l D cy ad (wP ad cy P ++ X) S p0 r1 hr2) (cwV 1 hts (gu_V w_13_9 w_13_6 w_13_7 w_13_8 w_1_2) rfl rfl rfl hdX8_isLifter ⟨Nat.le_of_ble_eq_true rfl, Nat.le_of_ble_eq_true rfl⟩) rfl hl.1 rfl (Nat.le_of_ble_eq_true rfl) ⟨Nat.zero_le _, Nat.zero_le _⟩ dX8_bluff_2 (fun H locs hW => ?_)
  refine lv_if_eq (tgt := 41) hx hb dX8_bluff_5 (by decide) (fun c3 => ?_) (fun c3 => ?_)
  · replace h := ite_t h c3
    refine lv_iconst (v := (-1)) hx hb dX8_bluff_41 (by decide) ?_
    obtain rfl := Option.some.inj h
    exact wd_iret hA hQ hC hr hk hW dX8_bluff_42
  · replace h := ite_f h c3
    refine lv_aload_n hx hb dX8_bluff_8 rfl (lv_at hl 0 rfl) ?_
    refine lv_iload_n hx hb dX8_bluff_9 rfl (lv_at hl 2 rfl) ?_
    obtain ⟨r4, hr5, h⟩ := bd_of h
    refine wd_callV1 (As := [.int p1]) hC hW 0 wC_c0 rfl (c_X8_isLifter l D cy ad (wP ad cy P ++ X) S p1 r4 hr5) (cwV 1 hts (gu_V w_13_9 w_13_6 w_13_7 w_13_8 w_1_2) rfl rfl rfl hdX8_isLifter ⟨Nat.le_of_ble_eq_true rfl, Nat.le_of_ble_eq_true rfl⟩) rfl hl.1 rfl (Nat.le_of_ble_eq_true rfl) ⟨Nat.zero_le _, Nat.zero_le _⟩ dX8_bluff_10 (fun H locs hW => ?_)
    refine lv_if_eq (tgt := 41) hx hb dX8_bluff_13 (by decide) (fun c6 => ?_) (fun c6 => ?_)
    · replace h := ite_t h c6
      refine lv_iconst (v := (-1)) hx hb dX8_bluff_41 (by decide) ?_
      obtain rfl := Option.some.inj h
      exact wd_iret hA hQ hC hr hk hW dX8_bluff_42
    · replace h := ite_f h c6
      refine lv_iload_n hx hb dX8_bluff_16 rfl (lv_at hl 1 rfl) ?_
      refine lv_iload_n hx hb dX8_bluff_17 rfl (lv_at hl 2 rfl) ?_
      refine lv_icmp_eq (tgt := 41) hx hb dX8_bluff_18 (by decide) (fun c7 => ?_) (fun c7 => ?_)
      · replace h := ite_t h c7
        refine lv_iconst (v := (-1)) hx hb dX8_bluff_41 (by decide) ?_
        obtain rfl := Option.some.inj h
        exact wd_iret hA hQ hC hr hk hW dX8_bluff_42
      · replace h := ite_f h c7
        refine lv_iload_n hx hb dX8_bluff_21 rfl (lv_at hl 3 rfl) ?_
        refine lv_if_lt (tgt := 41) hx hb dX8_bluff_22 (by decide) (fun c8 => ?_) (fun c8 => ?_)
        · replace h := ite_t h c8
          refine lv_iconst (v := (-1)) hx hb dX8_bluff_41 (by decide) ?_
          obtain rfl := Option.some.inj h
          exact wd_iret hA hQ hC hr hk hW dX8_bluff_42
        · replace h := ite_f h c8
          refine lv_iload_n hx hb dX8_bluff_25 rfl (lv_at hl 3 rfl) ?_
          refine lv_iconst (v := 2) hx hb dX8_bluff_26 (by decide) ?_
          refine lv_icmp_gt (tgt := 41) hx hb dX8_bluff_27 (by decide) (fun c9 => ?_) (fun c9 => ?_)
          · replace h := ite_t h c9
            refine lv_iconst (v := (-1)) hx hb dX8_bluff_41 (by decide) ?_
            obtain rfl := Option.some.inj h
            exact wd_iret hA hQ hC hr hk hW dX8_bluff_42
          · replace h := ite_f h c9
            refine lv_iload hx hb dX8_bluff_30 (lv_at hl 4 rfl) ?_
            refine lv_if_lt (tgt := 41) hx hb dX8_bluff_32 (by decide) (fun c10 => ?_) (fun c10 => ?_)
            · replace h := ite_t h c10
              refine lv_iconst (v := (-1)) hx hb dX8_bluff_41 (by decide) ?_
              obtain rfl := Option.some.inj h
              exact wd_iret hA hQ hC hr hk hW dX8_bluff_42
            · replace h := ite_f h c10
              refine lv_iload hx hb dX8_bluff_35 (lv_at hl 4 rfl) ?_
              refine lv_iconst (v := 2) hx hb dX8_bluff_37 (by decide) ?_
              refine lv_icmp_le (tgt := 43) hx hb dX8_bluff_38 (by decide) (fun c11 => ?_) (fun c11 => ?_)
              · replace h := ite_t h c11
                refine lv_aload_n hx hb dX8_bluff_43 rfl (lv_at hl 0 rfl) ?_
                refine lv_iload_n hx hb dX8_bluff_44 rfl (lv_at hl 1 rfl) ?_
                refine lv_iload_n hx hb dX8_bluff_45 rfl (lv_at hl 2 rfl) ?_
                refine lv_iload_n hx hb dX8_bluff_46 rfl (lv_at hl 3 rfl) ?_
                refine lv_iload hx hb dX8_bluff_47 (lv_at hl 4 rfl) ?_
                refine lv_iconst (v := 2) hx hb dX8_bluff_49 (by decide) ?_
                obtain ⟨r12, hr13, h⟩ := bd_of h
                refine wd_callV1 (As := [.int p0, .int p1, .int p2, .int p3, .int 2]) hC hW 0 wC_c0 rfl (c_X8_fight l D cy ad X n S P p0 p1 p2 p3 2 r12 hr13) (cwV 5 hts (gu_V w_42_21 w_42_18 w_42_19 w_42_20 w_1_2) rfl rfl rfl hdX8_fight ⟨Nat.le_of_ble_eq_true rfl, Nat.le_of_ble_eq_true rfl⟩) rfl hl.1 rfl (Nat.le_of_ble_eq_true rfl) ⟨Nat.zero_le _, Nat.zero_le _⟩ dX8_bluff_50 (fun H locs hW => ?_)
                obtain rfl := Option.some.inj h
                exact wd_iret hA hQ hC hr hk hW dX8_bluff_53
              · replace h := ite_f h c11
                refine lv_iconst (v := (-1)) hx hb dX8_bluff_41 (by decide) ?_
                obtain rfl := Option.some.inj h
                exact wd_iret hA hQ hC hr hk hW dX8_bluff_42
