theorem hdX2_atFirst : yX2_atFirst.cls ≠ "java/lang/invoke/MethodHandle" ∧ yX2_atFirst.cls ≠ "java/lang/invoke/VarHandle" ∧ (parseMethodDescriptor yX2_atFirst.desc).map (fun d => d.parameters.length) = some 2 := by decide +kernel
theorem hdX2_choose : yX2_choose.cls = RX2 ∧ yX2_choose.cls ≠ "java/lang/invoke/MethodHandle" ∧ yX2_choose.cls ≠ "java/lang/invoke/VarHandle" ∧ (parseMethodDescriptor yX2_choose.desc).map (fun d => d.parameters.length) = some 4 := by decide +kernel
theorem hdX2_endOf : yX2_endOf.cls = RX2 ∧ yX2_endOf.cls ≠ "java/lang/invoke/MethodHandle" ∧ yX2_endOf.cls ≠ "java/lang/invoke/VarHandle" ∧ (parseMethodDescriptor yX2_endOf.desc).map (fun d => d.parameters.length) = some 1 := by decide +kernel
theorem hdX2_fillOne : yX2_fillOne.cls = RX2 ∧ yX2_fillOne.cls ≠ "java/lang/invoke/MethodHandle" ∧ yX2_fillOne.cls ≠ "java/lang/invoke/VarHandle" ∧ (parseMethodDescriptor yX2_fillOne.desc).map (fun d => d.parameters.length) = some 2 := by decide +kernel
theorem hdX2_fillTables : yX2_fillTables.cls = RX2 ∧ yX2_fillTables.cls ≠ "java/lang/invoke/MethodHandle" ∧ yX2_fillTables.cls ≠ "java/lang/invoke/VarHandle" ∧ (parseMethodDescriptor yX2_fillTables.desc).map (fun d => d.parameters.length) = some 2 := by decide +kernel
theorem hdX2_fillTwo : yX2_fillTwo.cls = RX2 ∧ yX2_fillTwo.cls ≠ "java/lang/invoke/MethodHandle" ∧ yX2_fillTwo.cls ≠ "java/lang/invoke/VarHandle" ∧ (parseMethodDescriptor yX2_fillTwo.desc).map (fun d => d.parameters.length) = some 2 := by decide +kernel
theorem hdX2_startOf : yX2_startOf.cls = RX2 ∧ yX2_startOf.cls ≠ "java/lang/invoke/MethodHandle" ∧ yX2_startOf.cls ≠ "java/lang/invoke/VarHandle" ∧ (parseMethodDescriptor yX2_startOf.desc).map (fun d => d.parameters.length) = some 2 := by decide +kernel
theorem hdX2_valueAt : yX2_valueAt.cls = RX2 ∧ yX2_valueAt.cls ≠ "java/lang/invoke/MethodHandle" ∧ yX2_valueAt.cls ≠ "java/lang/invoke/VarHandle" ∧ (parseMethodDescriptor yX2_valueAt.desc).map (fun d => d.parameters.length) = some 4 := by decide +kernel
def m_X2_prepare_L38 : Nat → St → St → Nat → Int32 → Int32 → Int32 → Int32 → Option (St)
  | 0, _, _, _, _, _, _, _ => none
  | n + 1, S, F, x1, x2, x4, x5, x6 =>
    if 3 ≤ x6 then (some F) else (ck ((x4 * 3) + x6) 9 ((m_X3_oddsOf S x1 x4 x5 (x6 * x2)).bind (fun r16 => ck x5 42 (nm (sA F (61 + ((x4 * 3) + x6).toNatClampNeg) x5.toNatClampNeg r16) (fun F19 => m_X2_prepare_L38 n S F19 x1 x2 x4 x5 (x6 + 1))))))
theorem m_X2_prepare_L38_0 (S : St) (F : St) (x1 : Nat) (x2 : Int32) (x4 : Int32) (x5 : Int32) (x6 : Int32) : m_X2_prepare_L38 0 S F x1 x2 x4 x5 x6 = none := rfl
theorem m_X2_prepare_L38_s {n : Nat} {S : St} {F : St} {x1 : Nat} {x2 : Int32} {x4 : Int32} {x5 : Int32} {x6 : Int32} : m_X2_prepare_L38 (n + 1) S F x1 x2 x4 x5 x6 =
    (if 3 ≤ x6 then (some F) else (ck ((x4 * 3) + x6) 9 ((m_X3_oddsOf S x1 x4 x5 (x6 * x2)).bind (fun r16 => ck x5 42 (nm (sA F (61 + ((x4 * 3) + x6).toNatClampNeg) x5.toNatClampNeg r16) (fun F19 => m_X2_prepare_L38 n S F19 x1 x2 x4 x5 (x6 + 1))))))) := rfl
def m_X2_prepare_L28 : Nat → St → St → Nat → Int32 → Int32 → Int32 → Option (St)
  | 0, _, _, _, _, _, _ => none
  | n + 1, S, F, x1, x2, x4, x5 =>
    if 40 < x5 then (some F) else ((m_X2_prepare_L38 n S F x1 x2 x4 x5 0).bind (fun q12 => ck (x4 * 3) 9 (ck x5 42 (if (q12.2.1 (61 + (x4 * 3).toNatClampNeg) x5.toNatClampNeg) ≤ 0 then (m_X2_prepare_L28 n S q12 x1 x2 x4 (x5 + 1)) else (ck x4 3 (nm (sA q12 70 x4.toNatClampNeg x5) (fun F25 => m_X2_prepare_L28 n S F25 x1 x2 x4 (x5 + 1))))))))
theorem m_X2_prepare_L28_0 (S : St) (F : St) (x1 : Nat) (x2 : Int32) (x4 : Int32) (x5 : Int32) : m_X2_prepare_L28 0 S F x1 x2 x4 x5 = none := rfl
theorem m_X2_prepare_L28_s {n : Nat} {S : St} {F : St} {x1 : Nat} {x2 : Int32} {x4 : Int32} {x5 : Int32} : m_X2_prepare_L28 (n + 1) S F x1 x2 x4 x5 =
    (if 40 < x5 then (some F) else ((m_X2_prepare_L38 n S F x1 x2 x4 x5 0).bind (fun q12 => ck (x4 * 3) 9 (ck x5 42 (if (q12.2.1 (61 + (x4 * 3).toNatClampNeg) x5.toNatClampNeg) ≤ 0 then (m_X2_prepare_L28 n S q12 x1 x2 x4 (x5 + 1)) else (ck x4 3 (nm (sA q12 70 x4.toNatClampNeg x5) (fun F25 => m_X2_prepare_L28 n S F25 x1 x2 x4 (x5 + 1))))))))) := rfl
def m_X2_prepare_L11 : Nat → St → St → Nat → Int32 → Int32 → Option (St)
  | 0, _, _, _, _, _ => none
  | n + 1, S, F, x1, x2, x4 =>
    if 3 ≤ x4 then (some F) else (ck x4 3 (nm (sA F 70 x4.toNatClampNeg 0) (fun F7 => (m_X2_prepare_L28 n S F7 x1 x2 x4 1).bind (fun q9 => ck x4 4 (nm (sF q9 (72 + x4.toNatClampNeg) (fun _ => (-1))) (fun F28 => m_X2_prepare_L11 n S F28 x1 x2 (x4 + 1)))))))
theorem m_X2_prepare_L11_0 (S : St) (F : St) (x1 : Nat) (x2 : Int32) (x4 : Int32) : m_X2_prepare_L11 0 S F x1 x2 x4 = none := rfl
theorem m_X2_prepare_L11_s {n : Nat} {S : St} {F : St} {x1 : Nat} {x2 : Int32} {x4 : Int32} : m_X2_prepare_L11 (n + 1) S F x1 x2 x4 =
    (if 3 ≤ x4 then (some F) else (ck x4 3 (nm (sA F 70 x4.toNatClampNeg 0) (fun F7 => (m_X2_prepare_L28 n S F7 x1 x2 x4 1).bind (fun q9 => ck x4 4 (nm (sF q9 (72 + x4.toNatClampNeg) (fun _ => (-1))) (fun F28 => m_X2_prepare_L11 n S F28 x1 x2 (x4 + 1)))))))) := rfl
def m_X2_prepare (n : Nat) (S : St) (F : St) (k0 : Nat) (p1 : Int32) : Option (St) :=
  nm (sI F 63 (S.1 60)) (fun F1 => (m_X2_prepare_L11 n S F1 k0 p1 0).bind (fun q3 => ck 3 4 (nm (sF q3 (72 + ((3 : Int32).toNatClampNeg)) (va_cpy (S.2.1 45) (q3.2.1 (72 + ((3 : Int32).toNatClampNeg))) 0 0 242)) (fun F31 => some F31))))
set_option maxHeartbeats 4000000 in
set_option maxRecDepth 100000 in
theorem c_X2_prepare (l : Launch) (D : va_G) (cy : Nat → ClassId) (ad : Nat → Nat) (X : va_W) (n : Nat) (S : St) (F : St) (k0 : Nat) (p1 : Int32) (r : (St)) (h : m_X2_prepare n S F k0 p1 = some r) (hk0 : k0 < 7) : CT l yX2_prepare (wu yX2_prepare cX2_prepare 7 none) 2 D cy [.ref (ad 59), .ref (ad (4 + 3 * k0)), .int p1, .ref (ad 44)] (wC ad cy S ++ (wF ad cy F ++ X)) (none) (wC ad cy S ++ (wF ad cy r ++ X)) := by
  refine CT.mk (cc := cX2_prepare) (maxL := 7) (ret := none) (own := RX2) (by decide) rfl rfl (Nat.le_of_ble_eq_true rfl) ?_
  intro p e s m args below meth c ls A Q hA hQ hC hr hk hW hl
  have hx := hC.1
  have hb := hC.2.1
  have hown := hC.2.2.2.1
  have hts := hC.2.2.2.2
  have hl : lv_has ls 7 [(0, .ref (ad 59)), (1, .ref (ad (4 + 3 * k0))), (2, .int p1), (3, .ref (ad 44))] := hl
  have f51 := hts _ (wu_in w_36_3)
  have i0 := (fun w h => wu_in (inc_0 w h) : ∀ w ∈ u_ws RX0 TX0 2, w ∈ (wu yX2_prepare cX2_prepare 7 none))
  have f15 := hts _ (wu_in w_35_11)
  have i2 := (fun w h => wu_in (inc_2 w h) : ∀ w ∈ u_ws RX2 TX2 12, w ∈ (wu yX2_prepare cX2_prepare 7 none))
  have f23 := hts _ (wu_in w_35_14)
  have f20 := hts _ (wu_in w_35_13)
  have f27 := hts _ (wu_in w_35_15)
  have f66 := hts _ (wu_in w_36_4)
  have cl69 := hts _ (wu_in w_36_5)
  have cn := hts _ (wu_in w_36_6)
  have ct := hts _ (wu_in w_36_7)
  have cv := hts _ (wu_in w_36_8)
  unfold m_X2_prepare at h
  refine lv_aload_n hx hb dX2_prepare_0 rfl (lv_at hl 0 rfl) ?_
  refine lv_aload_n hx hb dX2_prepare_1 rfl (lv_at hl 3 rfl) ?_
  refine wd_get hC i0 hW 44 wC_c44 rfl 1 (Nat.le_of_ble_eq_true rfl) f51 rfl rfl dX2_prepare_2 ?_
  refine wd_put hC i2 tyX2_ok nmX2 hW 59 wF_c59 rfl 1 (Nat.le_of_ble_eq_true rfl) f15 rfl rfl rfl rfl (Nat.le_of_ble_eq_true rfl) wF_s59_1 dX2_prepare_5 (fun H locs hW => ?_)
  obtain ⟨F1, e2, h⟩ := nm_of h
  replace hW := wq_F e2 hW
  refine lv_iconst (v := 0) hx hb dX2_prepare_8 (by decide) ?_
  refine lv_istore (lv' := [(4, .int 0), (0, .ref (ad 59)), (1, .ref (ad (4 + 3 * k0))), (2, .int p1), (3, .ref (ad 44))]) hx hb dX2_prepare_9 hl (by decide) rfl (fun ls hl => ?_)
  have hL11 : ∀ (n : Nat) (F : St) (x1 : Nat) (x2 : Int32) (x4 : Int32) (hx1 : x1 < 7) (H : Heap) (locs : List Loc) (ls : Array Slot) (r : (St)), m_X2_prepare_L11 n S F x1 x2 x4 = some r → Wd D cy A s (wC ad cy S ++ (wF ad cy F ++ X)) H locs → lv_has ls 7 [(0, .ref (ad 59)), (1, .ref (ad (4 + 3 * x1))), (2, .int x2), (3, .ref (ad 44)), (4, .int x4)] → (∀ (H : Heap) (locs : List Loc) (ls : Array Slot), Wd D cy A s (wC ad cy S ++ (wF ad cy r ++ X)) H locs → lv_has ls 7 [(0, .ref (ad 59)), (1, .ref (ad (4 + 3 * x1))), (2, .int x2), (3, .ref (ad 44))] → W p l e (RM 2) s m args below meth c H locs 0 0 Q (F0 m 124 ls [])) → W p l e (RM 2) s m args below meth c H locs 0 0 Q (F0 m 11 ls []) := by
    intro n
    induction n with
    | zero =>
      intro F x1 x2 x4 hx1 H locs ls r h
      exact absurd (h.symm.trans (m_X2_prepare_L11_0 ..)) (by simp)
    | succ n ih =>
      intro F x1 x2 x4 hx1 H locs ls r h hW hl kk
      rw [m_X2_prepare_L11_s] at h
      refine lv_iload hx hb dX2_prepare_11 (lv_at hl 4 rfl) ?_
      refine lv_iconst (v := 3) hx hb dX2_prepare_13 (by decide) ?_
      refine lv_icmp_ge (tgt := 124) hx hb dX2_prepare_14 (by decide) (fun c5 => ?_) (fun c5 => ?_)
      · replace h := ite_t h c5
        obtain rfl := Option.some.inj h
        exact kk _ _ _ hW (lv_sub hl [0, 1, 2, 3] rfl)
      · replace h := ite_f h c5
        refine lv_aload_n hx hb dX2_prepare_17 rfl (lv_at hl 0 rfl) ?_
        refine wd_get hC i2 hW 59 wF_c59 rfl 3 (Nat.le_of_ble_eq_true rfl) f23 rfl rfl dX2_prepare_18 ?_
        refine lv_iload hx hb dX2_prepare_21 (lv_at hl 4 rfl) ?_
        refine lv_iconst (v := 0) hx hb dX2_prepare_23 (by decide) ?_
        obtain ⟨hi6, h⟩ := ck_of h
        refine wd_iast hC hW 70 wF_c70 hi6 wF_t70 dX2_prepare_24 (fun H locs hW => ?_)
        obtain ⟨F7, e8, h⟩ := nm_of h
        replace hW := wq_F e8 hW
        refine lv_iconst (v := 1) hx hb dX2_prepare_25 (by decide) ?_
        refine lv_istore (lv' := [(5, .int 1), (0, .ref (ad 59)), (1, .ref (ad (4 + 3 * x1))), (2, .int x2), (3, .ref (ad 44)), (4, .int x4)]) hx hb dX2_prepare_26 hl (by decide) rfl (fun ls hl => ?_)
        have hL28 : ∀ (n : Nat) (F : St) (x1 : Nat) (x2 : Int32) (x4 : Int32) (x5 : Int32) (hx1 : x1 < 7) (H : Heap) (locs : List Loc) (ls : Array Slot) (r : (St)), m_X2_prepare_L28 n S F x1 x2 x4 x5 = some r → Wd D cy A s (wC ad cy S ++ (wF ad cy F ++ X)) H locs → lv_has ls 7 [(0, .ref (ad 59)), (1, .ref (ad (4 + 3 * x1))), (2, .int x2), (3, .ref (ad 44)), (4, .int x4), (5, .int x5)] → (∀ (H : Heap) (locs : List Loc) (ls : Array Slot), Wd D cy A s (wC ad cy S ++ (wF ad cy r ++ X)) H locs → lv_has ls 7 [(0, .ref (ad 59)), (1, .ref (ad (4 + 3 * x1))), (2, .int x2), (3, .ref (ad 44)), (4, .int x4)] → W p l e (RM 2) s m args below meth c H locs 0 0 Q (F0 m 107 ls [])) → W p l e (RM 2) s m args below meth c H locs 0 0 Q (F0 m 28 ls []) := by
          intro n
          induction n with
          | zero =>
            intro F x1 x2 x4 x5 hx1 H locs ls r h
            exact absurd (h.symm.trans (m_X2_prepare_L28_0 ..)) (by simp)
          | succ n ih =>
            intro F x1 x2 x4 x5 hx1 H locs ls r h hW hl kk
            rw [m_X2_prepare_L28_s] at h
            refine lv_iload hx hb dX2_prepare_28 (lv_at hl 5 rfl) ?_
            refine lv_bipush (v := 40) hx hb dX2_prepare_30 (by decide) ?_
            refine lv_icmp_gt (tgt := 107) hx hb dX2_prepare_32 (by decide) (fun c11 => ?_) (fun c11 => ?_)
            · replace h := ite_t h c11
              obtain rfl := Option.some.inj h
              exact kk _ _ _ hW (lv_sub hl [0, 1, 2, 3, 4] rfl)
            · replace h := ite_f h c11
              refine lv_iconst (v := 0) hx hb dX2_prepare_35 (by decide) ?_
              refine lv_istore (lv' := [(6, .int 0), (0, .ref (ad 59)), (1, .ref (ad (4 + 3 * x1))), (2, .int x2), (3, .ref (ad 44)), (4, .int x4), (5, .int x5)]) hx hb dX2_prepare_36 hl (by decide) rfl (fun ls hl => ?_)
              have hL38 : ∀ (n : Nat) (F : St) (x1 : Nat) (x2 : Int32) (x4 : Int32) (x5 : Int32) (x6 : Int32) (hx1 : x1 < 7) (H : Heap) (locs : List Loc) (ls : Array Slot) (r : (St)), m_X2_prepare_L38 n S F x1 x2 x4 x5 x6 = some r → Wd D cy A s (wC ad cy S ++ (wF ad cy F ++ X)) H locs → lv_has ls 7 [(0, .ref (ad 59)), (1, .ref (ad (4 + 3 * x1))), (2, .int x2), (3, .ref (ad 44)), (4, .int x4), (5, .int x5), (6, .int x6)] → (∀ (H : Heap) (locs : List Loc) (ls : Array Slot), Wd D cy A s (wC ad cy S ++ (wF ad cy r ++ X)) H locs → lv_has ls 7 [(0, .ref (ad 59)), (1, .ref (ad (4 + 3 * x1))), (2, .int x2), (3, .ref (ad 44)), (4, .int x4), (5, .int x5)] → W p l e (RM 2) s m args below meth c H locs 0 0 Q (F0 m 77 ls [])) → W p l e (RM 2) s m args below meth c H locs 0 0 Q (F0 m 38 ls []) := by
                intro n
                induction n with
                | zero =>
                  intro F x1 x2 x4 x5 x6 hx1 H locs ls r h
                  exact absurd (h.symm.trans (m_X2_prepare_L38_0 ..)) (by simp)
                | succ n ih =>
                  intro F x1 x2 x4 x5 x6 hx1 H locs ls r h hW hl kk
                  rw [m_X2_prepare_L38_s] at h
                  refine lv_iload hx hb dX2_prepare_38 (lv_at hl 6 rfl) ?_
                  refine lv_iconst (v := 3) hx hb dX2_prepare_40 (by decide) ?_
                  refine lv_icmp_ge (tgt := 77) hx hb dX2_prepare_41 (by decide) (fun c14 => ?_) (fun c14 => ?_)
                  · replace h := ite_t h c14
                    obtain rfl := Option.some.inj h
                    exact kk _ _ _ hW (lv_sub hl [0, 1, 2, 3, 4, 5] rfl)
                  · replace h := ite_f h c14
                    refine lv_aload_n hx hb dX2_prepare_44 rfl (lv_at hl 0 rfl) ?_
                    refine wd_get hC i2 hW 59 wF_c59 rfl 2 (Nat.le_of_ble_eq_true rfl) f20 rfl rfl dX2_prepare_45 ?_
                    refine lv_iload hx hb dX2_prepare_48 (lv_at hl 4 rfl) ?_
                    refine lv_iconst (v := 3) hx hb dX2_prepare_50 (by decide) ?_
                    refine lv_imul hx hb dX2_prepare_51 ?_
                    refine lv_iload hx hb dX2_prepare_52 (lv_at hl 6 rfl) ?_
                    refine lv_iadd hx hb dX2_prepare_54 ?_
                    obtain ⟨hi15, h⟩ := ck_of h
                    refine wd_aldg hC hW 60 wF_c60 hi15 rfl dX2_prepare_55 ?_
                    refine lv_iload hx hb dX2_prepare_56 (lv_at hl 5 rfl) ?_
                    refine lv_aload_n hx hb dX2_prepare_58 rfl (lv_at hl 1 rfl) ?_
                    refine lv_iload hx hb dX2_prepare_59 (lv_at hl 4 rfl) ?_
                    refine lv_iload hx hb dX2_prepare_61 (lv_at hl 5 rfl) ?_
                    refine lv_iload hx hb dX2_prepare_63 (lv_at hl 6 rfl) ?_
                    refine lv_iload_n hx hb dX2_prepare_65 rfl (lv_at hl 2 rfl) ?_
                    refine lv_imul hx hb dX2_prepare_66 ?_
                    obtain ⟨r16, hr17, h⟩ := bd_of h
                    refine wd_callV1 (As := [.int x4, .int x5, .int (x6 * x2)]) hC hW (4 + 3 * x1) (wC_L hx1) rfl (c_X3_oddsOf l D cy ad (wF ad cy F ++ X) S x1 x4 x5 (x6 * x2) r16 hr17 hx1) (cwV 3 hts (gu_V w_15_11 w_36_9 w_15_9 w_15_10 w_1_20) rfl rfl rfl hdX3_oddsOf ⟨Nat.le_of_ble_eq_true rfl, Nat.le_of_ble_eq_true rfl⟩) rfl hl.1 rfl (Nat.le_of_ble_eq_true rfl) ⟨Nat.zero_le _, Nat.zero_le _⟩ dX2_prepare_67 (fun H locs hW => ?_)
                    obtain ⟨hi18, h⟩ := ck_of h
                    refine wd_iast hC hW (61 + ((x4 * 3) + x6).toNatClampNeg) (wG_od (in_lt hi15)) hi18 (wG_od_t (in_lt hi15)) dX2_prepare_70 (fun H locs hW => ?_)
                    obtain ⟨F19, e20, h⟩ := nm_of h
                    replace hW := wq_F e20 hW
                    refine lv_iinc (v := x6 + 1) (lv' := [(6, .int (x6 + 1)), (0, .ref (ad 59)), (1, .ref (ad (4 + 3 * x1))), (2, .int x2), (3, .ref (ad 44)), (4, .int x4), (5, .int x5)]) hx hb dX2_prepare_71 hl (k := 6) rfl rfl (by decide) rfl (fun ls hl => ?_)
                    refine lv_goto (tgt := 38) hx hb dX2_prepare_74 (by decide) ?_
                    exact ih F19 x1 x2 x4 x5 (x6 + 1) hx1 _ _ _ r h hW (lv_sub hl [1, 2, 3, 4, 5, 6, 0] rfl) kk
              obtain ⟨q12, hq13, h⟩ := bd_of h
              refine hL38 n F x1 x2 x4 x5 0 hx1 _ _ _ q12 hq13 hW (lv_sub hl [1, 2, 3, 4, 5, 6, 0] rfl) (fun H locs ls hW hl => ?_)
              refine lv_aload_n hx hb dX2_prepare_77 rfl (lv_at hl 0 rfl) ?_
              refine wd_get hC i2 hW 59 wF_c59 rfl 2 (Nat.le_of_ble_eq_true rfl) f20 rfl rfl dX2_prepare_78 ?_
              refine lv_iload hx hb dX2_prepare_81 (lv_at hl 4 rfl) ?_
              refine lv_iconst (v := 3) hx hb dX2_prepare_83 (by decide) ?_
              refine lv_imul hx hb dX2_prepare_84 ?_
              obtain ⟨hi21, h⟩ := ck_of h
              refine wd_aldg hC hW 60 wF_c60 hi21 rfl dX2_prepare_85 ?_
              refine lv_iload hx hb dX2_prepare_86 (lv_at hl 5 rfl) ?_
              obtain ⟨hi22, h⟩ := ck_of h
              refine wd_iald hC hW (61 + (x4 * 3).toNatClampNeg) (wG_od (in_lt hi21)) hi22 dX2_prepare_88 ?_
              refine lv_if_le (tgt := 101) hx hb dX2_prepare_89 (by decide) (fun c23 => ?_) (fun c23 => ?_)
              · replace h := ite_t h c23
                refine lv_iinc (v := x5 + 1) (lv' := [(5, .int (x5 + 1)), (0, .ref (ad 59)), (1, .ref (ad (4 + 3 * x1))), (2, .int x2), (3, .ref (ad 44)), (4, .int x4)]) hx hb dX2_prepare_101 hl (k := 5) rfl rfl (by decide) rfl (fun ls hl => ?_)
                refine lv_goto (tgt := 28) hx hb dX2_prepare_104 (by decide) ?_
                exact ih q12 x1 x2 x4 (x5 + 1) hx1 _ _ _ r h hW (lv_sub hl [1, 2, 3, 4, 5, 0] rfl) kk
              · replace h := ite_f h c23
                refine lv_aload_n hx hb dX2_prepare_92 rfl (lv_at hl 0 rfl) ?_
                refine wd_get hC i2 hW 59 wF_c59 rfl 3 (Nat.le_of_ble_eq_true rfl) f23 rfl rfl dX2_prepare_93 ?_
                refine lv_iload hx hb dX2_prepare_96 (lv_at hl 4 rfl) ?_
                refine lv_iload hx hb dX2_prepare_98 (lv_at hl 5 rfl) ?_
                obtain ⟨hi24, h⟩ := ck_of h
                refine wd_iast hC hW 70 wF_c70 hi24 wF_t70 dX2_prepare_100 (fun H locs hW => ?_)
                obtain ⟨F25, e26, h⟩ := nm_of h
                replace hW := wq_F e26 hW
                refine lv_iinc (v := x5 + 1) (lv' := [(5, .int (x5 + 1)), (0, .ref (ad 59)), (1, .ref (ad (4 + 3 * x1))), (2, .int x2), (3, .ref (ad 44)), (4, .int x4)]) hx hb dX2_prepare_101 hl (k := 5) rfl rfl (by decide) rfl (fun ls hl => ?_)
                refine lv_goto (tgt := 28) hx hb dX2_prepare_104 (by decide) ?_
                exact ih F25 x1 x2 x4 (x5 + 1) hx1 _ _ _ r h hW (lv_sub hl [1, 2, 3, 4, 5, 0] rfl) kk
        obtain ⟨q9, hq10, h⟩ := bd_of h
        refine hL28 n F7 x1 x2 x4 1 hx1 _ _ _ q9 hq10 hW (lv_sub hl [1, 2, 3, 4, 5, 0] rfl) (fun H locs ls hW hl => ?_)
        refine lv_aload_n hx hb dX2_prepare_107 rfl (lv_at hl 0 rfl) ?_
        refine wd_get hC i2 hW 59 wF_c59 rfl 4 (Nat.le_of_ble_eq_true rfl) f27 rfl rfl dX2_prepare_108 ?_
        refine lv_iload hx hb dX2_prepare_111 (lv_at hl 4 rfl) ?_
        obtain ⟨hi27, h⟩ := ck_of h
        refine wd_aldg hC hW 71 wF_c71 hi27 rfl dX2_prepare_113 ?_
        refine lv_iconst (v := (-1)) hx hb dX2_prepare_114 (by decide) ?_
        refine wd_callS0 (As := [.ref (ad (72 + x4.toNatClampNeg)), .int (-1)]) hC hW (c_fill l D cy (72 + x4.toNatClampNeg) (ad (72 + x4.toNatClampNeg)) 242 _ (-1) (wG_fs (in_lt hi27)) (by decide) (wG_fs_f (in_lt hi27))) (va_cwS 2 hts (gu_S w_26_0 w_36_10 w_25_22 w_25_23) rfl rfl rfl hdJ7_fill_53178 ⟨Nat.le_of_ble_eq_true rfl, Nat.le_of_ble_eq_true rfl⟩) rfl hl.1 rfl (Nat.le_of_ble_eq_true rfl) ⟨Nat.zero_le _, Nat.zero_le _⟩ dX2_prepare_115 (fun H locs hW => ?_)
        obtain ⟨F28, e29, h⟩ := nm_of h
        replace hW := wq_F e29 hW
        refine lv_iinc (v := x4 + 1) (lv' := [(4, .int (x4 + 1)), (0, .ref (ad 59)), (1, .ref (ad (4 + 3 * x1))), (2, .int x2), (3, .ref (ad 44))]) hx hb dX2_prepare_118 hl (k := 4) rfl rfl (by decide) rfl (fun ls hl => ?_)
        refine lv_goto (tgt := 11) hx hb dX2_prepare_121 (by decide) ?_
        exact ih F28 x1 x2 (x4 + 1) hx1 _ _ _ r h hW (lv_sub hl [1, 2, 3, 4, 0] rfl) kk
  obtain ⟨q3, hq4, h⟩ := bd_of h
  refine hL11 n F1 k0 p1 0 hk0 _ _ _ q3 hq4 hW (lv_sub hl [1, 2, 3, 4, 0] rfl) (fun H locs ls hW hl => ?_)
  refine lv_aload_n hx hb dX2_prepare_124 rfl (lv_at hl 3 rfl) ?_
  refine wd_get hC i0 hW 44 wC_c44 rfl 0 (Nat.le_of_ble_eq_true rfl) f66 rfl rfl dX2_prepare_125 ?_
  refine lv_iconst (v := 0) hx hb dX2_prepare_128 (by decide) ?_
  refine lv_aload_n hx hb dX2_prepare_129 rfl (lv_at hl 0 rfl) ?_
  refine wd_get hC i2 hW 59 wF_c59 rfl 4 (Nat.le_of_ble_eq_true rfl) f27 rfl rfl dX2_prepare_130 ?_
  refine lv_iconst (v := 3) hx hb dX2_prepare_133 (by decide) ?_
  obtain ⟨hi30, h⟩ := ck_of h
  refine wd_aldg hC hW 71 wF_c71 hi30 rfl dX2_prepare_134 ?_
  refine lv_iconst (v := 0) hx hb dX2_prepare_135 (by decide) ?_
  refine lv_sipush (v := 242) hx hb dX2_prepare_136 (by decide) ?_
  refine wd_copy (N := 242) hC hl.1 cl69 cn ct cv hW 45 (72 + ((3 : Int32).toNatClampNeg)) wC_c45 (wG_fs (in_lt hi30)) (by decide) (by decide) (by decide) (by decide) (wG_fs_f (in_lt hi30)) (Nat.le_of_ble_eq_true rfl) (Nat.le_of_ble_eq_true rfl) dX2_prepare_139 (fun H locs hW => ?_)
  obtain ⟨F31, e32, h⟩ := nm_of h
  replace hW := wq_F e32 hW
  obtain rfl := Option.some.inj h
  exact wd_vret hA hQ hC hr hk hW dX2_prepare_142
def m_X2_atFirst (S : St) (F : St) (p0 : Int32) (p1 : Int32) : Option (Int32) :=
  if 40 ≤ p0 then (some (-1)) else (some (1000 * p1))
set_option maxHeartbeats 4000000 in
set_option maxRecDepth 100000 in
theorem c_X2_atFirst (l : Launch) (D : va_G) (cy : Nat → ClassId) (ad : Nat → Nat) (X : va_W) (S : St) (F : St) (p0 : Int32) (p1 : Int32) (r : (Int32)) (h : m_X2_atFirst S F p0 p1 = some r) : CT l yX2_atFirst (wu yX2_atFirst cX2_atFirst 2 (some .int)) 0 D cy [.int p0, .int p1] (wC ad cy S ++ (wF ad cy F ++ X)) (some (.int r)) (wC ad cy S ++ (wF ad cy F ++ X)) := by
  refine CT.mk (cc := cX2_atFirst) (maxL := 2) (ret := (some .int)) (own := RX2) (by decide) rfl rfl (Nat.le_of_ble_eq_true rfl) ?_
  intro p e s m args below meth c ls A Q hA hQ hC hr hk hW hl
  have hx := hC.1
  have hb := hC.2.1
  have hown := hC.2.2.2.1
  have hts := hC.2.2.2.2
  have hl : lv_has ls 2 [(0, .int p0), (1, .int p1)] := hl
  unfold m_X2_atFirst at h
  refine lv_iload_n hx hb dX2_atFirst_0 rfl (lv_at hl 0 rfl) ?_
  refine lv_bipush (v := 40) hx hb dX2_atFirst_1 (by decide) ?_
  refine lv_icmp_ge (tgt := 14) hx hb dX2_atFirst_3 (by decide) (fun c1 => ?_) (fun c1 => ?_)
  · replace h := ite_t h c1
    refine lv_iconst (v := (-1)) hx hb dX2_atFirst_14 (by decide) ?_
    obtain rfl := Option.some.inj h
    exact wd_iret hA hQ hC hr hk hW dX2_atFirst_15
  · replace h := ite_f h c1
    refine lv_sipush (v := 1000) hx hb dX2_atFirst_6 (by decide) ?_
    refine lv_iload_n hx hb dX2_atFirst_9 rfl (lv_at hl 1 rfl) ?_
    refine lv_imul hx hb dX2_atFirst_10 ?_
    refine lv_goto (tgt := 15) hx hb dX2_atFirst_11 (by decide) ?_
    obtain rfl := Option.some.inj h
    exact wd_iret hA hQ hC hr hk hW dX2_atFirst_15
def m_X2_endOf (S : St) (F : St) (p0 : Int32) : Option (Int32) :=
  if ((F.1 65) + p0) < 0 then (some 0) else (if ((F.1 65) + p0) < 242 then (ck ((F.1 64) + 1) 4 (ck ((F.1 65) + p0) 242 (some (F.2.1 (72 + ((F.1 64) + 1).toNatClampNeg) ((F.1 65) + p0).toNatClampNeg)))) else (some 0))
set_option maxHeartbeats 4000000 in
set_option maxRecDepth 100000 in
theorem c_X2_endOf (l : Launch) (D : va_G) (cy : Nat → ClassId) (ad : Nat → Nat) (X : va_W) (S : St) (F : St) (p0 : Int32) (r : (Int32)) (h : m_X2_endOf S F p0 = some r) : CT l yX2_endOf (wu yX2_endOf cX2_endOf 3 (some .int)) 0 D cy [.ref (ad 59), .int p0] (wC ad cy S ++ (wF ad cy F ++ X)) (some (.int r)) (wC ad cy S ++ (wF ad cy F ++ X)) := by
  refine CT.mk (cc := cX2_endOf) (maxL := 3) (ret := (some .int)) (own := RX2) (by decide) rfl rfl (Nat.le_of_ble_eq_true rfl) ?_
  intro p e s m args below meth c ls A Q hA hQ hC hr hk hW hl
  have hx := hC.1
  have hb := hC.2.1
  have hown := hC.2.2.2.1
  have hts := hC.2.2.2.2
  have hl : lv_has ls 3 [(0, .ref (ad 59)), (1, .int p0)] := hl
  have f33 := hts _ (wu_in w_35_17)
  have i2 := (fun w h => wu_in (inc_2 w h) : ∀ w ∈ u_ws RX2 TX2 12, w ∈ (wu yX2_endOf cX2_endOf 3 (some .int)))
  have f27 := hts _ (wu_in w_35_15)
  have f30 := hts _ (wu_in w_35_16)
  unfold m_X2_endOf at h
  refine lv_aload_n hx hb dX2_endOf_0 rfl (lv_at hl 0 rfl) ?_
  refine wd_get hC i2 hW 59 wF_c59 rfl 6 (Nat.le_of_ble_eq_true rfl) f33 rfl rfl dX2_endOf_1 ?_
  refine lv_iload_n hx hb dX2_endOf_4 rfl (lv_at hl 1 rfl) ?_
  refine lv_iadd hx hb dX2_endOf_5 ?_
  refine lv_istore_n (lv' := [(2, .int ((F.1 65) + p0)), (0, .ref (ad 59)), (1, .int p0)]) hx hb dX2_endOf_6 rfl hl (by decide) rfl (fun ls hl => ?_)
  refine lv_iload_n hx hb dX2_endOf_7 rfl (lv_at hl 0 rfl) ?_
  refine lv_if_lt (tgt := 18) hx hb dX2_endOf_8 (by decide) (fun c1 => ?_) (fun c1 => ?_)
  · replace h := ite_t h c1
    refine lv_iconst (v := 0) hx hb dX2_endOf_18 (by decide) ?_
    refine lv_goto (tgt := 35) hx hb dX2_endOf_19 (by decide) ?_
    obtain rfl := Option.some.inj h
    exact wd_iret hA hQ hC hr hk hW dX2_endOf_35
  · replace h := ite_f h c1
    refine lv_iload_n hx hb dX2_endOf_11 rfl (lv_at hl 0 rfl) ?_
    refine lv_sipush (v := 242) hx hb dX2_endOf_12 (by decide) ?_
    refine lv_icmp_lt (tgt := 22) hx hb dX2_endOf_15 (by decide) (fun c2 => ?_) (fun c2 => ?_)
    · replace h := ite_t h c2
      refine lv_aload_n hx hb dX2_endOf_22 rfl (lv_at hl 1 rfl) ?_
      refine wd_get hC i2 hW 59 wF_c59 rfl 4 (Nat.le_of_ble_eq_true rfl) f27 rfl rfl dX2_endOf_23 ?_
      refine lv_aload_n hx hb dX2_endOf_26 rfl (lv_at hl 1 rfl) ?_
      refine wd_get hC i2 hW 59 wF_c59 rfl 5 (Nat.le_of_ble_eq_true rfl) f30 rfl rfl dX2_endOf_27 ?_
      refine lv_iconst (v := 1) hx hb dX2_endOf_30 (by decide) ?_
      refine lv_iadd hx hb dX2_endOf_31 ?_
      obtain ⟨hi3, h⟩ := ck_of h
      refine wd_aldg hC hW 71 wF_c71 hi3 rfl dX2_endOf_32 ?_
      refine lv_iload_n hx hb dX2_endOf_33 rfl (lv_at hl 0 rfl) ?_
      obtain ⟨hi4, h⟩ := ck_of h
      refine wd_iald hC hW (72 + ((F.1 64) + 1).toNatClampNeg) (wG_fs (in_lt hi3)) hi4 dX2_endOf_34 ?_
      obtain rfl := Option.some.inj h
      exact wd_iret hA hQ hC hr hk hW dX2_endOf_35
    · replace h := ite_f h c2
      refine lv_iconst (v := 0) hx hb dX2_endOf_18 (by decide) ?_
      refine lv_goto (tgt := 35) hx hb dX2_endOf_19 (by decide) ?_
      obtain rfl := Option.some.inj h
      exact wd_iret hA hQ hC hr hk hW dX2_endOf_35
def m_X2_valueAt (S : St) (F : St) (p0 : Int32) (p1 : Int32) (p2 : Int32) (p3 : Int32) : Option (Int32) :=
  if p1 < 0 then (some 0) else (if 3 ≤ p1 then (some 0) else (if p2 < 0 then (some 0) else (if p2 ≤ 40 then (ck (((F.1 64) * 3) + p1) 9 (ck p3 42 (nm (F.2.1 (61 + (((F.1 64) * 3) + p1).toNatClampNeg) p3.toNatClampNeg) (fun v7 => if 1 < p0 then (if p0 < 3 then (if p1 = 0 then (ck p3 42 (ck ((p2 * 42) + p3) 1764 ((m_X8_mix S v7 (F.2.1 76 p3.toNatClampNeg) (F.2.1 77 ((p2 * 42) + p3).toNatClampNeg)).bind (fun r18 => some r18)))) else (ck (((p3 * 42) + p3) + 1) 1764 (ck p3 42 ((m_X8_mix S v7 (F.2.1 77 (((p3 * 42) + p3) + 1).toNatClampNeg) (F.2.1 78 p3.toNatClampNeg)).bind (fun r14 => some r14))))) else (ck p3 42 (ck p3 42 ((m_X8_mix S v7 (F.2.1 79 p3.toNatClampNeg) (F.2.1 80 p3.toNatClampNeg)).bind (fun r22 => some r22))))) else ((m_X2_endOf S F p3).bind (fun r24 => ((if p2 = 0 then (some (F.1 63)) else ((m_X2_endOf S F p2).bind (fun r31 => some r31)) : Option (Int32))).bind (fun q27 => (m_X8_mix S v7 r24 q27).bind (fun r29 => some r29)))))))) else (some 0))))
set_option maxHeartbeats 4000000 in
set_option maxRecDepth 100000 in
theorem c_X2_valueAt (l : Launch) (D : va_G) (cy : Nat → ClassId) (ad : Nat → Nat) (X : va_W) (S : St) (F : St) (p0 : Int32) (p1 : Int32) (p2 : Int32) (p3 : Int32) (r : (Int32)) (h : m_X2_valueAt S F p0 p1 p2 p3 = some r) : CT l yX2_valueAt (wu yX2_valueAt cX2_valueAt 6 (some .int)) 1 D cy [.ref (ad 59), .int p0, .int p1, .int p2, .int p3] (wC ad cy S ++ (wF ad cy F ++ X)) (some (.int r)) (wC ad cy S ++ (wF ad cy F ++ X)) := by
  refine CT.mk (cc := cX2_valueAt) (maxL := 6) (ret := (some .int)) (own := RX2) (by decide) rfl rfl (Nat.le_of_ble_eq_true rfl) ?_
  intro p e s m args below meth c ls A Q hA hQ hC hr hk hW hl
  have hx := hC.1
  have hb := hC.2.1
  have hown := hC.2.2.2.1
  have hts := hC.2.2.2.2
  have hl : lv_has ls 6 [(0, .ref (ad 59)), (1, .int p0), (2, .int p1), (3, .int p2), (4, .int p3)] := hl
  have f20 := hts _ (wu_in w_35_13)
  have i2 := (fun w h => wu_in (inc_2 w h) : ∀ w ∈ u_ws RX2 TX2 12, w ∈ (wu yX2_valueAt cX2_valueAt 6 (some .int)))
  have f30 := hts _ (wu_in w_35_16)
  have f39 := hts _ (wu_in w_35_19)
  have f42 := hts _ (wu_in w_35_20)
  have csmix := hts _ (wu_in w_27_22)
  have ci8 := hts _ (wu_in w_1_2)
  have f36 := hts _ (wu_in w_35_18)
  have f45 := hts _ (wu_in w_35_21)
  have f48 := hts _ (wu_in w_35_22)
  have f15 := hts _ (wu_in w_35_11)
  unfold m_X2_valueAt at h
  refine lv_iload_n hx hb dX2_valueAt_0 rfl (lv_at hl 2 rfl) ?_
  refine lv_if_lt (tgt := 19) hx hb dX2_valueAt_1 (by decide) (fun c1 => ?_) (fun c1 => ?_)
  · replace h := ite_t h c1
    refine lv_iconst (v := 0) hx hb dX2_valueAt_19 (by decide) ?_
    obtain rfl := Option.some.inj h
    exact wd_iret hA hQ hC hr hk hW dX2_valueAt_20
  · replace h := ite_f h c1
    refine lv_iload_n hx hb dX2_valueAt_4 rfl (lv_at hl 2 rfl) ?_
    refine lv_iconst (v := 3) hx hb dX2_valueAt_5 (by decide) ?_
    refine lv_icmp_ge (tgt := 19) hx hb dX2_valueAt_6 (by decide) (fun c2 => ?_) (fun c2 => ?_)
    · replace h := ite_t h c2
      refine lv_iconst (v := 0) hx hb dX2_valueAt_19 (by decide) ?_
      obtain rfl := Option.some.inj h
      exact wd_iret hA hQ hC hr hk hW dX2_valueAt_20
    · replace h := ite_f h c2
      refine lv_iload_n hx hb dX2_valueAt_9 rfl (lv_at hl 3 rfl) ?_
      refine lv_if_lt (tgt := 19) hx hb dX2_valueAt_10 (by decide) (fun c3 => ?_) (fun c3 => ?_)
      · replace h := ite_t h c3
        refine lv_iconst (v := 0) hx hb dX2_valueAt_19 (by decide) ?_
        obtain rfl := Option.some.inj h
        exact wd_iret hA hQ hC hr hk hW dX2_valueAt_20
      · replace h := ite_f h c3
        refine lv_iload_n hx hb dX2_valueAt_13 rfl (lv_at hl 3 rfl) ?_
        refine lv_bipush (v := 40) hx hb dX2_valueAt_14 (by decide) ?_
        refine lv_icmp_le (tgt := 21) hx hb dX2_valueAt_16 (by decide) (fun c4 => ?_) (fun c4 => ?_)
        · replace h := ite_t h c4
          refine lv_aload_n hx hb dX2_valueAt_21 rfl (lv_at hl 0 rfl) ?_
          refine wd_get hC i2 hW 59 wF_c59 rfl 2 (Nat.le_of_ble_eq_true rfl) f20 rfl rfl dX2_valueAt_22 ?_
          refine lv_aload_n hx hb dX2_valueAt_25 rfl (lv_at hl 0 rfl) ?_
          refine wd_get hC i2 hW 59 wF_c59 rfl 5 (Nat.le_of_ble_eq_true rfl) f30 rfl rfl dX2_valueAt_26 ?_
          refine lv_iconst (v := 3) hx hb dX2_valueAt_29 (by decide) ?_
          refine lv_imul hx hb dX2_valueAt_30 ?_
          refine lv_iload_n hx hb dX2_valueAt_31 rfl (lv_at hl 2 rfl) ?_
          refine lv_iadd hx hb dX2_valueAt_32 ?_
          obtain ⟨hi5, h⟩ := ck_of h
          refine wd_aldg hC hW 60 wF_c60 hi5 rfl dX2_valueAt_33 ?_
          refine lv_iload hx hb dX2_valueAt_34 (lv_at hl 4 rfl) ?_
          obtain ⟨hi6, h⟩ := ck_of h
          refine wd_iald hC hW (61 + (((F.1 64) * 3) + p1).toNatClampNeg) (wG_od (in_lt hi5)) hi6 dX2_valueAt_36 ?_
          refine lv_topi (fun v7 ev8 => ?_)
          replace h := nm_eq h ev8
          refine lv_istore (lv' := [(5, .int v7), (0, .ref (ad 59)), (1, .int p0), (2, .int p1), (3, .int p2), (4, .int p3)]) hx hb dX2_valueAt_37 hl (by decide) rfl (fun ls hl => ?_)
          refine lv_iload_n hx hb dX2_valueAt_39 rfl (lv_at hl 2 rfl) ?_
          refine lv_iconst (v := 1) hx hb dX2_valueAt_40 (by decide) ?_
          refine lv_icmp_gt (tgt := 72) hx hb dX2_valueAt_41 (by decide) (fun c9 => ?_) (fun c9 => ?_)
          · replace h := ite_t h c9
            refine lv_iload_n hx hb dX2_valueAt_72 rfl (lv_at hl 2 rfl) ?_
            refine lv_iconst (v := 3) hx hb dX2_valueAt_73 (by decide) ?_
            refine lv_icmp_lt (tgt := 97) hx hb dX2_valueAt_74 (by decide) (fun c10 => ?_) (fun c10 => ?_)
            · replace h := ite_t h c10
              refine lv_iload_n hx hb dX2_valueAt_97 rfl (lv_at hl 3 rfl) ?_
              refine lv_if_ne (tgt := 126) hx hb dX2_valueAt_98 (by decide) (fun c11 => ?_) (fun c11 => ?_)
              · replace h := ite_f h c11
                refine lv_iload hx hb dX2_valueAt_126 (lv_at hl 0 rfl) ?_
                refine lv_aload_n hx hb dX2_valueAt_128 rfl (lv_at hl 1 rfl) ?_
                refine wd_get hC i2 hW 59 wF_c59 rfl 8 (Nat.le_of_ble_eq_true rfl) f39 rfl rfl dX2_valueAt_129 ?_
                refine lv_iload hx hb dX2_valueAt_132 (lv_at hl 5 rfl) ?_
                refine lv_bipush (v := 42) hx hb dX2_valueAt_134 (by decide) ?_
                refine lv_imul hx hb dX2_valueAt_136 ?_
                refine lv_iload hx hb dX2_valueAt_137 (lv_at hl 5 rfl) ?_
                refine lv_iadd hx hb dX2_valueAt_139 ?_
                refine lv_iconst (v := 1) hx hb dX2_valueAt_140 (by decide) ?_
                refine lv_iadd hx hb dX2_valueAt_141 ?_
                obtain ⟨hi12, h⟩ := ck_of h
                refine wd_iald hC hW 77 wF_c77 hi12 dX2_valueAt_142 ?_
                refine lv_aload_n hx hb dX2_valueAt_143 rfl (lv_at hl 1 rfl) ?_
                refine wd_get hC i2 hW 59 wF_c59 rfl 9 (Nat.le_of_ble_eq_true rfl) f42 rfl rfl dX2_valueAt_144 ?_
                refine lv_iload hx hb dX2_valueAt_147 (lv_at hl 5 rfl) ?_
                obtain ⟨hi13, h⟩ := ck_of h
                refine wd_iald hC hW 78 wF_c78 hi13 dX2_valueAt_149 ?_
                obtain ⟨r14, hr15, h⟩ := bd_of h
                refine wd_callSN1 (As := [.int v7, .int (F.2.1 77 (((p3 * 42) + p3) + 1).toNatClampNeg), .int (F.2.1 78 p3.toNatClampNeg)]) hC hW (c_X8_mix l D cy ad (wF ad cy F ++ X) S v7 (F.2.1 77 (((p3 * 42) + p3) + 1).toNatClampNeg) (F.2.1 78 p3.toNatClampNeg) r14 hr15) ⟨va_cnB 3 hts (gu_N w_27_23) rfl rfl rfl (hW.2.2.2.2.2.at 7 rfl) ci8 hdX8_mix ⟨Nat.le_of_ble_eq_true rfl, Nat.le_of_ble_eq_true rfl⟩, csmix, trivial⟩ rfl hl.1 rfl (Nat.le_of_ble_eq_true rfl) ⟨Nat.zero_le _, Nat.zero_le _⟩ dX2_valueAt_150 (fun H locs hW => ?_)
                obtain rfl := Option.some.inj h
                exact wd_iret hA hQ hC hr hk hW dX2_valueAt_153
              · replace h := ite_t h c11
                refine lv_iload hx hb dX2_valueAt_101 (lv_at hl 0 rfl) ?_
                refine lv_aload_n hx hb dX2_valueAt_103 rfl (lv_at hl 1 rfl) ?_
                refine wd_get hC i2 hW 59 wF_c59 rfl 7 (Nat.le_of_ble_eq_true rfl) f36 rfl rfl dX2_valueAt_104 ?_
                refine lv_iload hx hb dX2_valueAt_107 (lv_at hl 5 rfl) ?_
                obtain ⟨hi16, h⟩ := ck_of h
                refine wd_iald hC hW 76 wF_c76 hi16 dX2_valueAt_109 ?_
                refine lv_aload_n hx hb dX2_valueAt_110 rfl (lv_at hl 1 rfl) ?_
                refine wd_get hC i2 hW 59 wF_c59 rfl 8 (Nat.le_of_ble_eq_true rfl) f39 rfl rfl dX2_valueAt_111 ?_
                refine lv_iload_n hx hb dX2_valueAt_114 rfl (lv_at hl 4 rfl) ?_
                refine lv_bipush (v := 42) hx hb dX2_valueAt_115 (by decide) ?_
                refine lv_imul hx hb dX2_valueAt_117 ?_
                refine lv_iload hx hb dX2_valueAt_118 (lv_at hl 5 rfl) ?_
                refine lv_iadd hx hb dX2_valueAt_120 ?_
                obtain ⟨hi17, h⟩ := ck_of h
                refine wd_iald hC hW 77 wF_c77 hi17 dX2_valueAt_121 ?_
                obtain ⟨r18, hr19, h⟩ := bd_of h
                refine wd_callSN1 (As := [.int v7, .int (F.2.1 76 p3.toNatClampNeg), .int (F.2.1 77 ((p2 * 42) + p3).toNatClampNeg)]) hC hW (c_X8_mix l D cy ad (wF ad cy F ++ X) S v7 (F.2.1 76 p3.toNatClampNeg) (F.2.1 77 ((p2 * 42) + p3).toNatClampNeg) r18 hr19) ⟨va_cnB 3 hts (gu_N w_27_23) rfl rfl rfl (hW.2.2.2.2.2.at 7 rfl) ci8 hdX8_mix ⟨Nat.le_of_ble_eq_true rfl, Nat.le_of_ble_eq_true rfl⟩, csmix, trivial⟩ rfl hl.1 rfl (Nat.le_of_ble_eq_true rfl) ⟨Nat.zero_le _, Nat.zero_le _⟩ dX2_valueAt_122 (fun H locs hW => ?_)
                obtain rfl := Option.some.inj h
                exact wd_iret hA hQ hC hr hk hW dX2_valueAt_125
            · replace h := ite_f h c10
              refine lv_iload hx hb dX2_valueAt_77 (lv_at hl 0 rfl) ?_
              refine lv_aload_n hx hb dX2_valueAt_79 rfl (lv_at hl 1 rfl) ?_
              refine wd_get hC i2 hW 59 wF_c59 rfl 10 (Nat.le_of_ble_eq_true rfl) f45 rfl rfl dX2_valueAt_80 ?_
              refine lv_iload hx hb dX2_valueAt_83 (lv_at hl 5 rfl) ?_
              obtain ⟨hi20, h⟩ := ck_of h
              refine wd_iald hC hW 79 wF_c79 hi20 dX2_valueAt_85 ?_
              refine lv_aload_n hx hb dX2_valueAt_86 rfl (lv_at hl 1 rfl) ?_
              refine wd_get hC i2 hW 59 wF_c59 rfl 11 (Nat.le_of_ble_eq_true rfl) f48 rfl rfl dX2_valueAt_87 ?_
              refine lv_iload hx hb dX2_valueAt_90 (lv_at hl 5 rfl) ?_
              obtain ⟨hi21, h⟩ := ck_of h
              refine wd_iald hC hW 80 wF_c80 hi21 dX2_valueAt_92 ?_
              obtain ⟨r22, hr23, h⟩ := bd_of h
              refine wd_callSN1 (As := [.int v7, .int (F.2.1 79 p3.toNatClampNeg), .int (F.2.1 80 p3.toNatClampNeg)]) hC hW (c_X8_mix l D cy ad (wF ad cy F ++ X) S v7 (F.2.1 79 p3.toNatClampNeg) (F.2.1 80 p3.toNatClampNeg) r22 hr23) ⟨va_cnB 3 hts (gu_N w_27_23) rfl rfl rfl (hW.2.2.2.2.2.at 7 rfl) ci8 hdX8_mix ⟨Nat.le_of_ble_eq_true rfl, Nat.le_of_ble_eq_true rfl⟩, csmix, trivial⟩ rfl hl.1 rfl (Nat.le_of_ble_eq_true rfl) ⟨Nat.zero_le _, Nat.zero_le _⟩ dX2_valueAt_93 (fun H locs hW => ?_)
              obtain rfl := Option.some.inj h
              exact wd_iret hA hQ hC hr hk hW dX2_valueAt_96
          · replace h := ite_f h c9
            refine lv_iload hx hb dX2_valueAt_44 (lv_at hl 0 rfl) ?_
            refine lv_aload_n hx hb dX2_valueAt_46 rfl (lv_at hl 1 rfl) ?_
            refine lv_iload hx hb dX2_valueAt_47 (lv_at hl 5 rfl) ?_
            obtain ⟨r24, hr25, h⟩ := bd_of h
            refine wd_callV1 (As := [.int p3]) hC hW 59 wF_c59 rfl (c_X2_endOf l D cy ad X S F p3 r24 hr25) (cwV 1 hts (gu_V w_37_21 w_37_18 w_37_19 w_37_20 w_35_6) rfl rfl rfl hdX2_endOf ⟨Nat.le_of_ble_eq_true rfl, Nat.le_of_ble_eq_true rfl⟩) rfl hl.1 rfl (Nat.le_of_ble_eq_true rfl) ⟨Nat.zero_le _, Nat.zero_le _⟩ dX2_valueAt_49 (fun H locs hW => ?_)
            refine lv_iload_n hx hb dX2_valueAt_52 rfl (lv_at hl 4 rfl) ?_
            obtain ⟨q27, hq28, h⟩ := bd_of h
            have hJ68 : ∀ (H : Heap) (locs : List Loc) (ls : Array Slot), Wd D cy A s (wC ad cy S ++ (wF ad cy F ++ X)) H locs → lv_has ls 6 [(5, .int v7), (0, .ref (ad 59)), (1, .int p0), (2, .int p1), (3, .int p2), (4, .int p3)] → W p l e (RM 1) s m args below meth c H locs 0 0 Q (F0 m 68 ls [.int q27, .int r24, .int v7]) := by
              intro H locs ls hW hl
              obtain ⟨r29, hr30, h⟩ := bd_of h
              refine wd_callSN1 (As := [.int v7, .int r24, .int q27]) hC hW (c_X8_mix l D cy ad (wF ad cy F ++ X) S v7 r24 q27 r29 hr30) ⟨va_cnB 3 hts (gu_N w_27_23) rfl rfl rfl (hW.2.2.2.2.2.at 7 rfl) ci8 hdX8_mix ⟨Nat.le_of_ble_eq_true rfl, Nat.le_of_ble_eq_true rfl⟩, csmix, trivial⟩ rfl hl.1 rfl (Nat.le_of_ble_eq_true rfl) ⟨Nat.zero_le _, Nat.zero_le _⟩ dX2_valueAt_68 (fun H locs hW => ?_)
              obtain rfl := Option.some.inj h
              exact wd_iret hA hQ hC hr hk hW dX2_valueAt_71
            replace h := hq28
            refine lv_if_ne (tgt := 63) hx hb dX2_valueAt_53 (by decide) (fun c26 => ?_) (fun c26 => ?_)
            · replace h := ite_f h c26
              refine lv_aload_n hx hb dX2_valueAt_63 rfl (lv_at hl 1 rfl) ?_
              refine lv_iload_n hx hb dX2_valueAt_64 rfl (lv_at hl 4 rfl) ?_
              obtain ⟨r31, hr32, h⟩ := bd_of h
              refine wd_callV1 (As := [.int p2]) hC hW 59 wF_c59 rfl (c_X2_endOf l D cy ad X S F p2 r31 hr32) (cwV 1 hts (gu_V w_37_21 w_37_18 w_37_19 w_37_20 w_35_6) rfl rfl rfl hdX2_endOf ⟨Nat.le_of_ble_eq_true rfl, Nat.le_of_ble_eq_true rfl⟩) rfl hl.1 rfl (Nat.le_of_ble_eq_true rfl) ⟨Nat.zero_le _, Nat.zero_le _⟩ dX2_valueAt_65 (fun H locs hW => ?_)
              obtain rfl := Option.some.inj h
              exact hJ68 _ _ _ hW (lv_sub hl [0, 1, 2, 3, 4, 5] rfl)
            · replace h := ite_t h c26
              refine lv_aload_n hx hb dX2_valueAt_56 rfl (lv_at hl 1 rfl) ?_
              refine wd_get hC i2 hW 59 wF_c59 rfl 1 (Nat.le_of_ble_eq_true rfl) f15 rfl rfl dX2_valueAt_57 ?_
              refine lv_goto (tgt := 68) hx hb dX2_valueAt_60 (by decide) ?_
              obtain rfl := Option.some.inj h
              exact hJ68 _ _ _ hW (lv_sub hl [0, 1, 2, 3, 4, 5] rfl)
        · replace h := ite_f h c4
          refine lv_iconst (v := 0) hx hb dX2_valueAt_19 (by decide) ?_
          obtain rfl := Option.some.inj h
          exact wd_iret hA hQ hC hr hk hW dX2_valueAt_20
def m_X2_choose_L68 : Nat → St → St → Int32 → Int32 → Int32 → Int32 → Int32 → Int32 → Option (St × Int32)
  | 0, _, _, _, _, _, _, _, _ => none
  | n + 1, S, F, x1, x2, x3, x4, x7, x8 =>
    if x8 < x4 then (some (F, x7)) else (if x8 < 1 then (some (F, x7)) else ((m_X2_valueAt S F x1 x2 x3 x8).bind (fun r14 => if r14 < x7 then (m_X2_choose_L68 n S F x1 x2 x3 x4 x7 (x8 + (-1))) else (nm (sI F 62 x8) (fun F17 => m_X2_choose_L68 n S F17 x1 x2 x3 x4 r14 (x8 + (-1)))))))
theorem m_X2_choose_L68_0 (S : St) (F : St) (x1 : Int32) (x2 : Int32) (x3 : Int32) (x4 : Int32) (x7 : Int32) (x8 : Int32) : m_X2_choose_L68 0 S F x1 x2 x3 x4 x7 x8 = none := rfl
theorem m_X2_choose_L68_s {n : Nat} {S : St} {F : St} {x1 : Int32} {x2 : Int32} {x3 : Int32} {x4 : Int32} {x7 : Int32} {x8 : Int32} : m_X2_choose_L68 (n + 1) S F x1 x2 x3 x4 x7 x8 =
    (if x8 < x4 then (some (F, x7)) else (if x8 < 1 then (some (F, x7)) else ((m_X2_valueAt S F x1 x2 x3 x8).bind (fun r14 => if r14 < x7 then (m_X2_choose_L68 n S F x1 x2 x3 x4 x7 (x8 + (-1))) else (nm (sI F 62 x8) (fun F17 => m_X2_choose_L68 n S F17 x1 x2 x3 x4 r14 (x8 + (-1)))))))) := rfl
def m_X2_choose (n : Nat) (S : St) (F : St) (p0 : Int32) (p1 : Int32) (p2 : Int32) (p3 : Int32) : Option (Int32 × St) :=
  ck (F.1 64) 3 (((if p2 = 0 then (some (F.1 63)) else ((m_X2_endOf S F p2).bind (fun r20 => some r20)) : Option (Int32))).bind (fun q3 => nm (sI F 62 (mx p3 ((F.2.1 70 (F.1 64).toNatClampNeg) + 1))) (fun F5 => ((if (F.2.1 70 (F.1 64).toNatClampNeg) < p3 then (some q3) else (if 40 ≤ (F.2.1 70 (F.1 64).toNatClampNeg) then (some (-1)) else (some q3)) : Option (Int32))).bind (fun q8 => (m_X2_choose_L68 n S F5 p0 p1 p2 p3 q8 (F.2.1 70 (F.1 64).toNatClampNeg)).bind (fun q10 => some (q10.2, q10.1))))))
set_option maxHeartbeats 4000000 in
set_option maxRecDepth 100000 in
theorem c_X2_choose (l : Launch) (D : va_G) (cy : Nat → ClassId) (ad : Nat → Nat) (X : va_W) (n : Nat) (S : St) (F : St) (p0 : Int32) (p1 : Int32) (p2 : Int32) (p3 : Int32) (r : (Int32 × St)) (h : m_X2_choose n S F p0 p1 p2 p3 = some r) : CT l yX2_choose (wu yX2_choose cX2_choose 10 (some .int)) 2 D cy [.ref (ad 59), .int p0, .int p1, .int p2, .int p3] (wC ad cy S ++ (wF ad cy F ++ X)) (some (.int r.1)) (wC ad cy S ++ (wF ad cy r.2 ++ X)) := by
  refine CT.mk (cc := cX2_choose) (maxL := 10) (ret := (some .int)) (own := RX2) (by decide) rfl rfl (Nat.le_of_ble_eq_true rfl) ?_
  intro p e s m args below meth c ls A Q hA hQ hC hr hk hW hl
  have hx := hC.1
  have hb := hC.2.1
  have hown := hC.2.2.2.1
  have hts := hC.2.2.2.2
  have hl : lv_has ls 10 [(0, .ref (ad 59)), (1, .int p0), (2, .int p1), (3, .int p2), (4, .int p3)] := hl
  have f23 := hts _ (wu_in w_35_14)
  have i2 := (fun w h => wu_in (inc_2 w h) : ∀ w ∈ u_ws RX2 TX2 12, w ∈ (wu yX2_choose cX2_choose 10 (some .int)))
  have f30 := hts _ (wu_in w_35_16)
  have ml120 := hts _ (wu_in w_37_17)
  have msmax := hts _ (wu_in w_15_13)
  have mi := hts _ (wu_in w_15_14)
  have mcmax := hts _ (wu_in w_15_15)
  have f9 := hts _ (wu_in w_35_10)
  have f15 := hts _ (wu_in w_35_11)
  unfold m_X2_choose at h
  refine lv_aload_n hx hb dX2_choose_0 rfl (lv_at hl 0 rfl) ?_
  refine wd_get hC i2 hW 59 wF_c59 rfl 3 (Nat.le_of_ble_eq_true rfl) f23 rfl rfl dX2_choose_1 ?_
  refine lv_aload_n hx hb dX2_choose_4 rfl (lv_at hl 0 rfl) ?_
  refine wd_get hC i2 hW 59 wF_c59 rfl 5 (Nat.le_of_ble_eq_true rfl) f30 rfl rfl dX2_choose_5 ?_
  obtain ⟨hi1, h⟩ := ck_of h
  refine wd_iald hC hW 70 wF_c70 hi1 dX2_choose_8 ?_
  refine lv_istore (lv' := [(5, .int (F.2.1 70 (F.1 64).toNatClampNeg)), (0, .ref (ad 59)), (1, .int p0), (2, .int p1), (3, .int p2), (4, .int p3)]) hx hb dX2_choose_9 hl (by decide) rfl (fun ls hl => ?_)
  refine lv_iload_n hx hb dX2_choose_11 rfl (lv_at hl 4 rfl) ?_
  obtain ⟨q3, hq4, h⟩ := bd_of h
  have hJ27 : ∀ (H : Heap) (locs : List Loc) (ls : Array Slot), Wd D cy A s (wC ad cy S ++ (wF ad cy F ++ X)) H locs → lv_has ls 10 [(5, .int (F.2.1 70 (F.1 64).toNatClampNeg)), (0, .ref (ad 59)), (1, .int p0), (2, .int p1), (3, .int p2), (4, .int p3)] → W p l e (RM 2) s m args below meth c H locs 0 0 Q (F0 m 27 ls [.int q3]) := by
    intro H locs ls hW hl
    refine lv_istore (lv' := [(6, .int q3), (5, .int (F.2.1 70 (F.1 64).toNatClampNeg)), (0, .ref (ad 59)), (1, .int p0), (2, .int p1), (3, .int p2), (4, .int p3)]) hx hb dX2_choose_27 hl (by decide) rfl (fun ls hl => ?_)
    refine lv_aload_n hx hb dX2_choose_29 rfl (lv_at hl 2 rfl) ?_
    refine lv_iload hx hb dX2_choose_30 (lv_at hl 6 rfl) ?_
    refine lv_iload hx hb dX2_choose_32 (lv_at hl 1 rfl) ?_
    refine lv_iconst (v := 1) hx hb dX2_choose_34 (by decide) ?_
    refine lv_iadd hx hb dX2_choose_35 ?_
    refine wd_max hC hl.1 ml120 msmax mi mcmax (Nat.le_of_ble_eq_true rfl) (Nat.le_of_ble_eq_true rfl) (Nat.zero_le _) (Nat.zero_le _) dX2_choose_36 ?_
    refine wd_put hC i2 tyX2_ok nmX2 hW 59 wF_c59 rfl 0 (Nat.le_of_ble_eq_true rfl) f9 rfl rfl rfl rfl (Nat.le_of_ble_eq_true rfl) wF_s59_0 dX2_choose_39 (fun H locs hW => ?_)
    obtain ⟨F5, e6, h⟩ := nm_of h
    replace hW := wq_F e6 hW
    refine lv_iload hx hb dX2_choose_42 (lv_at hl 6 rfl) ?_
    refine lv_iload hx hb dX2_choose_44 (lv_at hl 1 rfl) ?_
    obtain ⟨q8, hq9, h⟩ := bd_of h
    have hJ62 : ∀ (H : Heap) (locs : List Loc) (ls : Array Slot), Wd D cy A s (wC ad cy S ++ (wF ad cy F5 ++ X)) H locs → lv_has ls 10 [(6, .int q3), (5, .int (F.2.1 70 (F.1 64).toNatClampNeg)), (0, .ref (ad 59)), (1, .int p0), (2, .int p1), (3, .int p2), (4, .int p3)] → W p l e (RM 2) s m args below meth c H locs 0 0 Q (F0 m 62 ls [.int q8]) := by
      intro H locs ls hW hl
      refine lv_istore (lv' := [(7, .int q8), (6, .int q3), (5, .int (F.2.1 70 (F.1 64).toNatClampNeg)), (0, .ref (ad 59)), (1, .int p0), (2, .int p1), (3, .int p2), (4, .int p3)]) hx hb dX2_choose_62 hl (by decide) rfl (fun ls hl => ?_)
      refine lv_iload hx hb dX2_choose_64 (lv_at hl 2 rfl) ?_
      refine lv_istore (lv' := [(8, .int (F.2.1 70 (F.1 64).toNatClampNeg)), (7, .int q8), (6, .int q3), (5, .int (F.2.1 70 (F.1 64).toNatClampNeg)), (0, .ref (ad 59)), (1, .int p0), (2, .int p1), (3, .int p2), (4, .int p3)]) hx hb dX2_choose_66 hl (by decide) rfl (fun ls hl => ?_)
      have hL68 : ∀ (n : Nat) (F : St) (x1 : Int32) (x2 : Int32) (x3 : Int32) (x4 : Int32) (x7 : Int32) (x8 : Int32)  (H : Heap) (locs : List Loc) (ls : Array Slot) (r : (St × Int32)), m_X2_choose_L68 n S F x1 x2 x3 x4 x7 x8 = some r → Wd D cy A s (wC ad cy S ++ (wF ad cy F ++ X)) H locs → lv_has ls 10 [(0, .ref (ad 59)), (1, .int x1), (2, .int x2), (3, .int x3), (4, .int x4), (7, .int x7), (8, .int x8)] → (∀ (H : Heap) (locs : List Loc) (ls : Array Slot), Wd D cy A s (wC ad cy S ++ (wF ad cy r.1 ++ X)) H locs → lv_has ls 10 [(0, .ref (ad 59)), (1, .int x1), (2, .int x2), (3, .int x3), (4, .int x4), (7, .int r.2)] → W p l e (RM 2) s m args below meth c H locs 0 0 Q (F0 m 115 ls [])) → W p l e (RM 2) s m args below meth c H locs 0 0 Q (F0 m 68 ls []) := by
        intro n
        induction n with
        | zero =>
          intro F x1 x2 x3 x4 x7 x8  H locs ls r h
          exact absurd (h.symm.trans (m_X2_choose_L68_0 ..)) (by simp)
        | succ n ih =>
          intro F x1 x2 x3 x4 x7 x8  H locs ls r h hW hl kk
          rw [m_X2_choose_L68_s] at h
          refine lv_iload hx hb dX2_choose_68 (lv_at hl 6 rfl) ?_
          refine lv_iload hx hb dX2_choose_70 (lv_at hl 4 rfl) ?_
          refine lv_icmp_lt (tgt := 115) hx hb dX2_choose_72 (by decide) (fun c12 => ?_) (fun c12 => ?_)
          · replace h := ite_t h c12
            obtain rfl := Option.some.inj h
            exact kk _ _ _ hW (lv_sub hl [0, 1, 2, 3, 4, 5] rfl)
          · replace h := ite_f h c12
            refine lv_iload hx hb dX2_choose_75 (lv_at hl 6 rfl) ?_
            refine lv_iconst (v := 1) hx hb dX2_choose_77 (by decide) ?_
            refine lv_icmp_lt (tgt := 115) hx hb dX2_choose_78 (by decide) (fun c13 => ?_) (fun c13 => ?_)
            · replace h := ite_t h c13
              obtain rfl := Option.some.inj h
              exact kk _ _ _ hW (lv_sub hl [0, 1, 2, 3, 4, 5] rfl)
            · replace h := ite_f h c13
              refine lv_aload_n hx hb dX2_choose_81 rfl (lv_at hl 0 rfl) ?_
              refine lv_iload_n hx hb dX2_choose_82 rfl (lv_at hl 1 rfl) ?_
              refine lv_iload_n hx hb dX2_choose_83 rfl (lv_at hl 2 rfl) ?_
              refine lv_iload_n hx hb dX2_choose_84 rfl (lv_at hl 3 rfl) ?_
              refine lv_iload hx hb dX2_choose_85 (lv_at hl 6 rfl) ?_
              obtain ⟨r14, hr15, h⟩ := bd_of h
              refine wd_callV1 (As := [.int x1, .int x2, .int x3, .int x8]) hC hW 59 wF_c59 rfl (c_X2_valueAt l D cy ad X S F x1 x2 x3 x8 r14 hr15) (cwV 4 hts (gu_V w_38_1 w_37_22 w_37_23 w_38_0 w_35_6) rfl rfl rfl hdX2_valueAt ⟨Nat.le_of_ble_eq_true rfl, Nat.le_of_ble_eq_true rfl⟩) rfl hl.1 rfl (Nat.le_of_ble_eq_true rfl) ⟨Nat.zero_le _, Nat.zero_le _⟩ dX2_choose_87 (fun H locs hW => ?_)
              refine lv_istore (lv' := [(9, .int r14), (0, .ref (ad 59)), (1, .int x1), (2, .int x2), (3, .int x3), (4, .int x4), (7, .int x7), (8, .int x8)]) hx hb dX2_choose_90 hl (by decide) rfl (fun ls hl => ?_)
              refine lv_iload hx hb dX2_choose_92 (lv_at hl 0 rfl) ?_
              refine lv_iload hx hb dX2_choose_94 (lv_at hl 6 rfl) ?_
              refine lv_icmp_lt (tgt := 109) hx hb dX2_choose_96 (by decide) (fun c16 => ?_) (fun c16 => ?_)
              · replace h := ite_t h c16
                refine lv_iinc (v := x8 + (-1)) (lv' := [(8, .int (x8 + (-1))), (9, .int r14), (0, .ref (ad 59)), (1, .int x1), (2, .int x2), (3, .int x3), (4, .int x4), (7, .int x7)]) hx hb dX2_choose_109 hl (k := 7) rfl rfl (by decide) rfl (fun ls hl => ?_)
                refine lv_goto (tgt := 68) hx hb dX2_choose_112 (by decide) ?_
                exact ih F x1 x2 x3 x4 x7 (x8 + (-1)) _ _ _ r h hW (lv_sub hl [2, 3, 4, 5, 6, 7, 0] rfl) kk
              · replace h := ite_f h c16
                refine lv_iload hx hb dX2_choose_99 (lv_at hl 0 rfl) ?_
                refine lv_istore (lv' := [(7, .int r14), (9, .int r14), (0, .ref (ad 59)), (1, .int x1), (2, .int x2), (3, .int x3), (4, .int x4), (8, .int x8)]) hx hb dX2_choose_101 hl (by decide) rfl (fun ls hl => ?_)
                refine lv_aload_n hx hb dX2_choose_103 rfl (lv_at hl 2 rfl) ?_
                refine lv_iload hx hb dX2_choose_104 (lv_at hl 7 rfl) ?_
                refine wd_put hC i2 tyX2_ok nmX2 hW 59 wF_c59 rfl 0 (Nat.le_of_ble_eq_true rfl) f9 rfl rfl rfl rfl (Nat.le_of_ble_eq_true rfl) wF_s59_0 dX2_choose_106 (fun H locs hW => ?_)
                obtain ⟨F17, e18, h⟩ := nm_of h
                replace hW := wq_F e18 hW
                refine lv_iinc (v := x8 + (-1)) (lv' := [(8, .int (x8 + (-1))), (7, .int r14), (9, .int r14), (0, .ref (ad 59)), (1, .int x1), (2, .int x2), (3, .int x3), (4, .int x4)]) hx hb dX2_choose_109 hl (k := 7) rfl rfl (by decide) rfl (fun ls hl => ?_)
                refine lv_goto (tgt := 68) hx hb dX2_choose_112 (by decide) ?_
                exact ih F17 x1 x2 x3 x4 r14 (x8 + (-1)) _ _ _ r h hW (lv_sub hl [3, 4, 5, 6, 7, 1, 0] rfl) kk
      obtain ⟨q10, hq11, h⟩ := bd_of h
      refine hL68 n F5 p0 p1 p2 p3 q8 (F.2.1 70 (F.1 64).toNatClampNeg)  _ _ _ q10 hq11 hW (lv_sub hl [4, 5, 6, 7, 8, 1, 0] rfl) (fun H locs ls hW hl => ?_)
      refine lv_iload hx hb dX2_choose_115 (lv_at hl 5 rfl) ?_
      obtain rfl := Option.some.inj h
      exact wd_iret hA hQ hC hr hk hW dX2_choose_117
    replace h := hq9
    refine lv_icmp_gt (tgt := 56) hx hb dX2_choose_46 (by decide) (fun c7 => ?_) (fun c7 => ?_)
    · replace h := ite_t h c7
      refine lv_iload hx hb dX2_choose_56 (lv_at hl 0 rfl) ?_
      refine lv_goto (tgt := 62) hx hb dX2_choose_58 (by decide) ?_
      obtain rfl := Option.some.inj h
      exact hJ62 _ _ _ hW (lv_sub hl [0, 1, 2, 3, 4, 5, 6] rfl)
    · replace h := ite_f h c7
      refine lv_iload hx hb dX2_choose_49 (lv_at hl 1 rfl) ?_
      refine lv_bipush (v := 40) hx hb dX2_choose_51 (by decide) ?_
      refine lv_icmp_ge (tgt := 61) hx hb dX2_choose_53 (by decide) (fun c19 => ?_) (fun c19 => ?_)
      · replace h := ite_t h c19
        refine lv_iconst (v := (-1)) hx hb dX2_choose_61 (by decide) ?_
        obtain rfl := Option.some.inj h
        exact hJ62 _ _ _ hW (lv_sub hl [0, 1, 2, 3, 4, 5, 6] rfl)
      · replace h := ite_f h c19
        refine lv_iload hx hb dX2_choose_56 (lv_at hl 0 rfl) ?_
        refine lv_goto (tgt := 62) hx hb dX2_choose_58 (by decide) ?_
        obtain rfl := Option.some.inj h
        exact hJ62 _ _ _ hW (lv_sub hl [0, 1, 2, 3, 4, 5, 6] rfl)
  replace h := hq4
  refine lv_if_ne (tgt := 22) hx hb dX2_choose_12 (by decide) (fun c2 => ?_) (fun c2 => ?_)
  · replace h := ite_f h c2
    refine lv_aload_n hx hb dX2_choose_22 rfl (lv_at hl 1 rfl) ?_
    refine lv_iload_n hx hb dX2_choose_23 rfl (lv_at hl 4 rfl) ?_
    obtain ⟨r20, hr21, h⟩ := bd_of h
    refine wd_callV1 (As := [.int p2]) hC hW 59 wF_c59 rfl (c_X2_endOf l D cy ad X S F p2 r20 hr21) (cwV 1 hts (gu_V w_37_21 w_37_18 w_37_19 w_37_20 w_35_6) rfl rfl rfl hdX2_endOf ⟨Nat.le_of_ble_eq_true rfl, Nat.le_of_ble_eq_true rfl⟩) rfl hl.1 rfl (Nat.le_of_ble_eq_true rfl) ⟨Nat.zero_le _, Nat.zero_le _⟩ dX2_choose_24 (fun H locs hW => ?_)
    obtain rfl := Option.some.inj h
    exact hJ27 _ _ _ hW (lv_sub hl [0, 1, 2, 3, 4, 5] rfl)
  · replace h := ite_t h c2
    refine lv_aload_n hx hb dX2_choose_15 rfl (lv_at hl 1 rfl) ?_
    refine wd_get hC i2 hW 59 wF_c59 rfl 1 (Nat.le_of_ble_eq_true rfl) f15 rfl rfl dX2_choose_16 ?_
    refine lv_goto (tgt := 27) hx hb dX2_choose_19 (by decide) ?_
    obtain rfl := Option.some.inj h
    exact hJ27 _ _ _ hW (lv_sub hl [0, 1, 2, 3, 4, 5] rfl)
def m_X2_fillOne_L105 : Nat → St → St → Int32 → Nat → Nat → Nat → Nat → Int32 → Int32 → Int32 → Int32 → Int32 → Option (St × Int32)
  | 0, _, _, _, _, _, _, _, _, _, _, _, _ => none
  | n + 1, S, F, x1, x2, x3, x4, x5, x6, x7, x8, x9, x10 =>
    if x10 ≤ x6 then (some (F, x8)) else (ck ((F.1 65) + x10) 242 (nm ((F.2.1 (72 + x2) ((F.1 65) + x10).toNatClampNeg) - x7) (fun v18 => ck x10 42 (nm (mx x8 ((1000 * x7) + ((F.2.1 (61 + x3) x10.toNatClampNeg) * v18))) (fun v21 => ck x10 42 (nm (mx x9 ((1000 * x7) + ((F.2.1 (61 + x4) x10.toNatClampNeg) * v18))) (fun v24 => ck ((x6 * 42) + x10) 1764 (nm (sA F 77 ((x6 * 42) + x10).toNatClampNeg (v24 / 1000)) (fun F27 => m_X2_fillOne_L105 n S F27 x1 x2 x3 x4 x5 x6 x7 v21 v24 (x10 + (-1)))))))))))
theorem m_X2_fillOne_L105_0 (S : St) (F : St) (x1 : Int32) (x2 : Nat) (x3 : Nat) (x4 : Nat) (x5 : Nat) (x6 : Int32) (x7 : Int32) (x8 : Int32) (x9 : Int32) (x10 : Int32) : m_X2_fillOne_L105 0 S F x1 x2 x3 x4 x5 x6 x7 x8 x9 x10 = none := rfl
theorem m_X2_fillOne_L105_s {n : Nat} {S : St} {F : St} {x1 : Int32} {x2 : Nat} {x3 : Nat} {x4 : Nat} {x5 : Nat} {x6 : Int32} {x7 : Int32} {x8 : Int32} {x9 : Int32} {x10 : Int32} : m_X2_fillOne_L105 (n + 1) S F x1 x2 x3 x4 x5 x6 x7 x8 x9 x10 =
    (if x10 ≤ x6 then (some (F, x8)) else (ck ((F.1 65) + x10) 242 (nm ((F.2.1 (72 + x2) ((F.1 65) + x10).toNatClampNeg) - x7) (fun v18 => ck x10 42 (nm (mx x8 ((1000 * x7) + ((F.2.1 (61 + x3) x10.toNatClampNeg) * v18))) (fun v21 => ck x10 42 (nm (mx x9 ((1000 * x7) + ((F.2.1 (61 + x4) x10.toNatClampNeg) * v18))) (fun v24 => ck ((x6 * 42) + x10) 1764 (nm (sA F 77 ((x6 * 42) + x10).toNatClampNeg (v24 / 1000)) (fun F27 => m_X2_fillOne_L105 n S F27 x1 x2 x3 x4 x5 x6 x7 v21 v24 (x10 + (-1)))))))))))) := rfl
def m_X2_fillOne_L45 : Nat → St → St → Int32 → Nat → Nat → Nat → Nat → Int32 → Option (St)
  | 0, _, _, _, _, _, _, _, _ => none
  | n + 1, S, F, x1, x2, x3, x4, x5, x6 =>
    if x1 < x6 then (some F) else (if 242 ≤ ((F.1 65) + x1) then (some F) else (ck ((F.1 65) + x6) 242 ((m_X2_atFirst S F x1 (F.2.1 (72 + x2) ((F.1 65) + x6).toNatClampNeg)).bind (fun r9 => ck (((x6 * 42) + x1) + 1) 1764 (nm (sA F 77 (((x6 * 42) + x1) + 1).toNatClampNeg (F.2.1 (72 + x2) ((F.1 65) + x6).toNatClampNeg)) (fun F12 => (m_X2_fillOne_L105 n S F12 x1 x2 x3 x4 x5 x6 (F.2.1 (72 + x2) ((F.1 65) + x6).toNatClampNeg) r9 r9 x1).bind (fun q14 => if x1 ≤ x6 then (ck x6 42 (nm (sA q14.1 76 x6.toNatClampNeg (F.2.1 (72 + x2) ((F.1 65) + x6).toNatClampNeg)) (fun F31 => m_X2_fillOne_L45 n S F31 x1 x2 x3 x4 x5 (x6 + 1)))) else (ck x6 42 (nm (sA q14.1 76 x6.toNatClampNeg (q14.2 / 1000)) (fun F34 => m_X2_fillOne_L45 n S F34 x1 x2 x3 x4 x5 (x6 + 1)))))))))))
theorem m_X2_fillOne_L45_0 (S : St) (F : St) (x1 : Int32) (x2 : Nat) (x3 : Nat) (x4 : Nat) (x5 : Nat) (x6 : Int32) : m_X2_fillOne_L45 0 S F x1 x2 x3 x4 x5 x6 = none := rfl
theorem m_X2_fillOne_L45_s {n : Nat} {S : St} {F : St} {x1 : Int32} {x2 : Nat} {x3 : Nat} {x4 : Nat} {x5 : Nat} {x6 : Int32} : m_X2_fillOne_L45 (n + 1) S F x1 x2 x3 x4 x5 x6 =
    (if x1 < x6 then (some F) else (if 242 ≤ ((F.1 65) + x1) then (some F) else (ck ((F.1 65) + x6) 242 ((m_X2_atFirst S F x1 (F.2.1 (72 + x2) ((F.1 65) + x6).toNatClampNeg)).bind (fun r9 => ck (((x6 * 42) + x1) + 1) 1764 (nm (sA F 77 (((x6 * 42) + x1) + 1).toNatClampNeg (F.2.1 (72 + x2) ((F.1 65) + x6).toNatClampNeg)) (fun F12 => (m_X2_fillOne_L105 n S F12 x1 x2 x3 x4 x5 x6 (F.2.1 (72 + x2) ((F.1 65) + x6).toNatClampNeg) r9 r9 x1).bind (fun q14 => if x1 ≤ x6 then (ck x6 42 (nm (sA q14.1 76 x6.toNatClampNeg (F.2.1 (72 + x2) ((F.1 65) + x6).toNatClampNeg)) (fun F31 => m_X2_fillOne_L45 n S F31 x1 x2 x3 x4 x5 (x6 + 1)))) else (ck x6 42 (nm (sA q14.1 76 x6.toNatClampNeg (q14.2 / 1000)) (fun F34 => m_X2_fillOne_L45 n S F34 x1 x2 x3 x4 x5 (x6 + 1)))))))))))) := rfl
def m_X2_fillOne_L237 : Nat → St → St → Int32 → Nat → Nat → Int32 → Int32 → Option (St)
  | 0, _, _, _, _, _, _, _ => none
  | n + 1, S, F, x1, x2, x5, x6, x7 =>
    if x7 ≤ 0 then (some F) else (if 242 ≤ ((F.1 65) + x1) then (some F) else (ck x7 42 (ck ((F.1 65) + x7) 242 (nm (mx x6 ((1000 * (F.1 63)) + ((F.2.1 (61 + x5) x7.toNatClampNeg) * ((F.2.1 (72 + x2) ((F.1 65) + x7).toNatClampNeg) - (F.1 63))))) (fun v44 => ck x7 42 (nm (sA F 78 x7.toNatClampNeg (v44 / 1000)) (fun F47 => m_X2_fillOne_L237 n S F47 x1 x2 x5 v44 (x7 + (-1)))))))))
theorem m_X2_fillOne_L237_0 (S : St) (F : St) (x1 : Int32) (x2 : Nat) (x5 : Nat) (x6 : Int32) (x7 : Int32) : m_X2_fillOne_L237 0 S F x1 x2 x5 x6 x7 = none := rfl
theorem m_X2_fillOne_L237_s {n : Nat} {S : St} {F : St} {x1 : Int32} {x2 : Nat} {x5 : Nat} {x6 : Int32} {x7 : Int32} : m_X2_fillOne_L237 (n + 1) S F x1 x2 x5 x6 x7 =
    (if x7 ≤ 0 then (some F) else (if 242 ≤ ((F.1 65) + x1) then (some F) else (ck x7 42 (ck ((F.1 65) + x7) 242 (nm (mx x6 ((1000 * (F.1 63)) + ((F.2.1 (61 + x5) x7.toNatClampNeg) * ((F.2.1 (72 + x2) ((F.1 65) + x7).toNatClampNeg) - (F.1 63))))) (fun v44 => ck x7 42 (nm (sA F 78 x7.toNatClampNeg (v44 / 1000)) (fun F47 => m_X2_fillOne_L237 n S F47 x1 x2 x5 v44 (x7 + (-1)))))))))) := rfl
def m_X2_fillOne (n : Nat) (S : St) (F : St) (p0 : Int32) (k1 : Nat) : Option (St) :=
  ck ((F.1 64) * 3) 9 (ck (((F.1 64) * 3) + 1) 9 (ck (((F.1 64) * 3) + 2) 9 ((m_X2_fillOne_L45 n S F p0 k1 (((F.1 64) * 3).toNatClampNeg) ((((F.1 64) * 3) + 1).toNatClampNeg) ((((F.1 64) * 3) + 2).toNatClampNeg) 1).bind (fun q4 => (m_X2_atFirst S q4 p0 (q4.1 63)).bind (fun r36 => (m_X2_fillOne_L237 n S q4 p0 k1 ((((F.1 64) * 3) + 2).toNatClampNeg) r36 p0).bind (fun q38 => some q38))))))
set_option maxHeartbeats 4000000 in
set_option maxRecDepth 100000 in
theorem c_X2_fillOne (l : Launch) (D : va_G) (cy : Nat → ClassId) (ad : Nat → Nat) (X : va_W) (n : Nat) (S : St) (F : St) (p0 : Int32) (k1 : Nat) (r : (St)) (h : m_X2_fillOne n S F p0 k1 = some r) (hk1 : k1 < 4) : CT l yX2_fillOne (wu yX2_fillOne cX2_fillOne 12 none) 1 D cy [.ref (ad 59), .int p0, .ref (ad (72 + k1))] (wC ad cy S ++ (wF ad cy F ++ X)) (none) (wC ad cy S ++ (wF ad cy r ++ X)) := by
  refine CT.mk (cc := cX2_fillOne) (maxL := 12) (ret := none) (own := RX2) (by decide) rfl rfl (Nat.le_of_ble_eq_true rfl) ?_
  intro p e s m args below meth c ls A Q hA hQ hC hr hk hW hl
  have hx := hC.1
  have hb := hC.2.1
  have hown := hC.2.2.2.1
  have hts := hC.2.2.2.2
  have hl : lv_has ls 12 [(0, .ref (ad 59)), (1, .int p0), (2, .ref (ad (72 + k1)))] := hl
  have f20 := hts _ (wu_in w_35_13)
  have i2 := (fun w h => wu_in (inc_2 w h) : ∀ w ∈ u_ws RX2 TX2 12, w ∈ (wu yX2_fillOne cX2_fillOne 12 none))
  have f30 := hts _ (wu_in w_35_16)
  have f33 := hts _ (wu_in w_35_17)
  have f39 := hts _ (wu_in w_35_19)
  have ml120 := hts _ (wu_in w_37_17)
  have msmax := hts _ (wu_in w_15_13)
  have mi := hts _ (wu_in w_15_14)
  have mcmax := hts _ (wu_in w_15_15)
  have f36 := hts _ (wu_in w_35_18)
  have f15 := hts _ (wu_in w_35_11)
  have f42 := hts _ (wu_in w_35_20)
  unfold m_X2_fillOne at h
  refine lv_aload_n hx hb dX2_fillOne_0 rfl (lv_at hl 0 rfl) ?_
  refine wd_get hC i2 hW 59 wF_c59 rfl 2 (Nat.le_of_ble_eq_true rfl) f20 rfl rfl dX2_fillOne_1 ?_
  refine lv_aload_n hx hb dX2_fillOne_4 rfl (lv_at hl 0 rfl) ?_
  refine wd_get hC i2 hW 59 wF_c59 rfl 5 (Nat.le_of_ble_eq_true rfl) f30 rfl rfl dX2_fillOne_5 ?_
  refine lv_iconst (v := 3) hx hb dX2_fillOne_8 (by decide) ?_
  refine lv_imul hx hb dX2_fillOne_9 ?_
  obtain ⟨hi1, h⟩ := ck_of h
  refine wd_aldg hC hW 60 wF_c60 hi1 rfl dX2_fillOne_10 ?_
  refine lv_astore_n (lv' := [(3, .ref (ad (61 + ((F.1 64) * 3).toNatClampNeg))), (0, .ref (ad 59)), (1, .int p0), (2, .ref (ad (72 + k1)))]) hx hb dX2_fillOne_11 rfl hl (by decide) rfl (fun ls hl => ?_)
  refine lv_aload_n hx hb dX2_fillOne_12 rfl (lv_at hl 1 rfl) ?_
  refine wd_get hC i2 hW 59 wF_c59 rfl 2 (Nat.le_of_ble_eq_true rfl) f20 rfl rfl dX2_fillOne_13 ?_
  refine lv_aload_n hx hb dX2_fillOne_16 rfl (lv_at hl 1 rfl) ?_
  refine wd_get hC i2 hW 59 wF_c59 rfl 5 (Nat.le_of_ble_eq_true rfl) f30 rfl rfl dX2_fillOne_17 ?_
  refine lv_iconst (v := 3) hx hb dX2_fillOne_20 (by decide) ?_
  refine lv_imul hx hb dX2_fillOne_21 ?_
  refine lv_iconst (v := 1) hx hb dX2_fillOne_22 (by decide) ?_
  refine lv_iadd hx hb dX2_fillOne_23 ?_
  obtain ⟨hi2, h⟩ := ck_of h
  refine wd_aldg hC hW 60 wF_c60 hi2 rfl dX2_fillOne_24 ?_
  refine lv_astore (lv' := [(4, .ref (ad (61 + (((F.1 64) * 3) + 1).toNatClampNeg))), (3, .ref (ad (61 + ((F.1 64) * 3).toNatClampNeg))), (0, .ref (ad 59)), (1, .int p0), (2, .ref (ad (72 + k1)))]) hx hb dX2_fillOne_25 hl (by decide) rfl (fun ls hl => ?_)
  refine lv_aload_n hx hb dX2_fillOne_27 rfl (lv_at hl 2 rfl) ?_
  refine wd_get hC i2 hW 59 wF_c59 rfl 2 (Nat.le_of_ble_eq_true rfl) f20 rfl rfl dX2_fillOne_28 ?_
  refine lv_aload_n hx hb dX2_fillOne_31 rfl (lv_at hl 2 rfl) ?_
  refine wd_get hC i2 hW 59 wF_c59 rfl 5 (Nat.le_of_ble_eq_true rfl) f30 rfl rfl dX2_fillOne_32 ?_
  refine lv_iconst (v := 3) hx hb dX2_fillOne_35 (by decide) ?_
  refine lv_imul hx hb dX2_fillOne_36 ?_
  refine lv_iconst (v := 2) hx hb dX2_fillOne_37 (by decide) ?_
  refine lv_iadd hx hb dX2_fillOne_38 ?_
  obtain ⟨hi3, h⟩ := ck_of h
  refine wd_aldg hC hW 60 wF_c60 hi3 rfl dX2_fillOne_39 ?_
  refine lv_astore (lv' := [(5, .ref (ad (61 + (((F.1 64) * 3) + 2).toNatClampNeg))), (4, .ref (ad (61 + (((F.1 64) * 3) + 1).toNatClampNeg))), (3, .ref (ad (61 + ((F.1 64) * 3).toNatClampNeg))), (0, .ref (ad 59)), (1, .int p0), (2, .ref (ad (72 + k1)))]) hx hb dX2_fillOne_40 hl (by decide) rfl (fun ls hl => ?_)
  refine lv_iconst (v := 1) hx hb dX2_fillOne_42 (by decide) ?_
  refine lv_istore (lv' := [(6, .int 1), (5, .ref (ad (61 + (((F.1 64) * 3) + 2).toNatClampNeg))), (4, .ref (ad (61 + (((F.1 64) * 3) + 1).toNatClampNeg))), (3, .ref (ad (61 + ((F.1 64) * 3).toNatClampNeg))), (0, .ref (ad 59)), (1, .int p0), (2, .ref (ad (72 + k1)))]) hx hb dX2_fillOne_43 hl (by decide) rfl (fun ls hl => ?_)
  have hL45 : ∀ (n : Nat) (F : St) (x1 : Int32) (x2 : Nat) (x3 : Nat) (x4 : Nat) (x5 : Nat) (x6 : Int32) (hx2 : x2 < 4) (hx3 : x3 < 9) (hx4 : x4 < 9) (hx5 : x5 < 9) (H : Heap) (locs : List Loc) (ls : Array Slot) (r : (St)), m_X2_fillOne_L45 n S F x1 x2 x3 x4 x5 x6 = some r → Wd D cy A s (wC ad cy S ++ (wF ad cy F ++ X)) H locs → lv_has ls 12 [(0, .ref (ad 59)), (1, .int x1), (2, .ref (ad (72 + x2))), (3, .ref (ad (61 + x3))), (4, .ref (ad (61 + x4))), (5, .ref (ad (61 + x5))), (6, .int x6)] → (∀ (H : Heap) (locs : List Loc) (ls : Array Slot), Wd D cy A s (wC ad cy S ++ (wF ad cy r ++ X)) H locs → lv_has ls 12 [(0, .ref (ad 59)), (1, .int x1), (2, .ref (ad (72 + x2))), (3, .ref (ad (61 + x3))), (4, .ref (ad (61 + x4))), (5, .ref (ad (61 + x5)))] → W p l e (RM 1) s m args below meth c H locs 0 0 Q (F0 m 224 ls [])) → W p l e (RM 1) s m args below meth c H locs 0 0 Q (F0 m 45 ls []) := by
    intro n
    induction n with
    | zero =>
      intro F x1 x2 x3 x4 x5 x6 hx2 hx3 hx4 hx5 H locs ls r h
      exact absurd (h.symm.trans (m_X2_fillOne_L45_0 ..)) (by simp)
    | succ n ih =>
      intro F x1 x2 x3 x4 x5 x6 hx2 hx3 hx4 hx5 H locs ls r h hW hl kk
      rw [m_X2_fillOne_L45_s] at h
      refine lv_iload hx hb dX2_fillOne_45 (lv_at hl 6 rfl) ?_
      refine lv_iload_n hx hb dX2_fillOne_47 rfl (lv_at hl 1 rfl) ?_
      refine lv_icmp_gt (tgt := 224) hx hb dX2_fillOne_48 (by decide) (fun c6 => ?_) (fun c6 => ?_)
      · replace h := ite_t h c6
        obtain rfl := Option.some.inj h
        exact kk _ _ _ hW (lv_sub hl [0, 1, 2, 3, 4, 5] rfl)
      · replace h := ite_f h c6
        refine lv_aload_n hx hb dX2_fillOne_51 rfl (lv_at hl 0 rfl) ?_
        refine wd_get hC i2 hW 59 wF_c59 rfl 6 (Nat.le_of_ble_eq_true rfl) f33 rfl rfl dX2_fillOne_52 ?_
        refine lv_iload_n hx hb dX2_fillOne_55 rfl (lv_at hl 1 rfl) ?_
        refine lv_iadd hx hb dX2_fillOne_56 ?_
        refine lv_sipush (v := 242) hx hb dX2_fillOne_57 (by decide) ?_
        refine lv_icmp_ge (tgt := 224) hx hb dX2_fillOne_60 (by decide) (fun c7 => ?_) (fun c7 => ?_)
        · replace h := ite_t h c7
          obtain rfl := Option.some.inj h
          exact kk _ _ _ hW (lv_sub hl [0, 1, 2, 3, 4, 5] rfl)
        · replace h := ite_f h c7
          refine lv_aload_n hx hb dX2_fillOne_63 rfl (lv_at hl 2 rfl) ?_
          refine lv_aload_n hx hb dX2_fillOne_64 rfl (lv_at hl 0 rfl) ?_
          refine wd_get hC i2 hW 59 wF_c59 rfl 6 (Nat.le_of_ble_eq_true rfl) f33 rfl rfl dX2_fillOne_65 ?_
          refine lv_iload hx hb dX2_fillOne_68 (lv_at hl 6 rfl) ?_
          refine lv_iadd hx hb dX2_fillOne_70 ?_
          obtain ⟨hi8, h⟩ := ck_of h
          refine wd_iald hC hW (72 + x2) (wG_fs hx2) hi8 dX2_fillOne_71 ?_
          refine lv_istore (lv' := [(7, .int (F.2.1 (72 + x2) ((F.1 65) + x6).toNatClampNeg)), (0, .ref (ad 59)), (1, .int x1), (2, .ref (ad (72 + x2))), (3, .ref (ad (61 + x3))), (4, .ref (ad (61 + x4))), (5, .ref (ad (61 + x5))), (6, .int x6)]) hx hb dX2_fillOne_72 hl (by decide) rfl (fun ls hl => ?_)
          refine lv_iload_n hx hb dX2_fillOne_74 rfl (lv_at hl 2 rfl) ?_
          refine lv_iload hx hb dX2_fillOne_75 (lv_at hl 0 rfl) ?_
          obtain ⟨r9, hr10, h⟩ := bd_of h
          refine wd_callS1 (As := [.int x1, .int (F.2.1 (72 + x2) ((F.1 65) + x6).toNatClampNeg)]) hC hW (c_X2_atFirst l D cy ad X S F x1 (F.2.1 (72 + x2) ((F.1 65) + x6).toNatClampNeg) r9 hr10) (va_cwS 2 hts (gu_S w_38_9 w_38_7 w_38_8 w_35_6) rfl rfl rfl hdX2_atFirst ⟨Nat.le_of_ble_eq_true rfl, Nat.le_of_ble_eq_true rfl⟩) rfl hl.1 rfl (Nat.le_of_ble_eq_true rfl) ⟨Nat.zero_le _, Nat.zero_le _⟩ dX2_fillOne_77 (fun H locs hW => ?_)
          refine lv_istore (lv' := [(8, .int r9), (7, .int (F.2.1 (72 + x2) ((F.1 65) + x6).toNatClampNeg)), (0, .ref (ad 59)), (1, .int x1), (2, .ref (ad (72 + x2))), (3, .ref (ad (61 + x3))), (4, .ref (ad (61 + x4))), (5, .ref (ad (61 + x5))), (6, .int x6)]) hx hb dX2_fillOne_80 hl (by decide) rfl (fun ls hl => ?_)
          refine lv_iload hx hb dX2_fillOne_82 (lv_at hl 0 rfl) ?_
          refine lv_istore (lv' := [(9, .int r9), (8, .int r9), (7, .int (F.2.1 (72 + x2) ((F.1 65) + x6).toNatClampNeg)), (0, .ref (ad 59)), (1, .int x1), (2, .ref (ad (72 + x2))), (3, .ref (ad (61 + x3))), (4, .ref (ad (61 + x4))), (5, .ref (ad (61 + x5))), (6, .int x6)]) hx hb dX2_fillOne_84 hl (by decide) rfl (fun ls hl => ?_)
          refine lv_aload_n hx hb dX2_fillOne_86 rfl (lv_at hl 3 rfl) ?_
          refine wd_get hC i2 hW 59 wF_c59 rfl 8 (Nat.le_of_ble_eq_true rfl) f39 rfl rfl dX2_fillOne_87 ?_
          refine lv_iload hx hb dX2_fillOne_90 (lv_at hl 9 rfl) ?_
          refine lv_bipush (v := 42) hx hb dX2_fillOne_92 (by decide) ?_
          refine lv_imul hx hb dX2_fillOne_94 ?_
          refine lv_iload_n hx hb dX2_fillOne_95 rfl (lv_at hl 4 rfl) ?_
          refine lv_iadd hx hb dX2_fillOne_96 ?_
          refine lv_iconst (v := 1) hx hb dX2_fillOne_97 (by decide) ?_
          refine lv_iadd hx hb dX2_fillOne_98 ?_
          refine lv_iload hx hb dX2_fillOne_99 (lv_at hl 2 rfl) ?_
          obtain ⟨hi11, h⟩ := ck_of h
          refine wd_iast hC hW 77 wF_c77 hi11 wF_t77 dX2_fillOne_101 (fun H locs hW => ?_)
          obtain ⟨F12, e13, h⟩ := nm_of h
          replace hW := wq_F e13 hW
          refine lv_iload_n hx hb dX2_fillOne_102 rfl (lv_at hl 4 rfl) ?_
          refine lv_istore (lv' := [(10, .int x1), (9, .int r9), (8, .int r9), (7, .int (F.2.1 (72 + x2) ((F.1 65) + x6).toNatClampNeg)), (0, .ref (ad 59)), (1, .int x1), (2, .ref (ad (72 + x2))), (3, .ref (ad (61 + x3))), (4, .ref (ad (61 + x4))), (5, .ref (ad (61 + x5))), (6, .int x6)]) hx hb dX2_fillOne_103 hl (by decide) rfl (fun ls hl => ?_)
          have hL105 : ∀ (n : Nat) (F : St) (x1 : Int32) (x2 : Nat) (x3 : Nat) (x4 : Nat) (x5 : Nat) (x6 : Int32) (x7 : Int32) (x8 : Int32) (x9 : Int32) (x10 : Int32) (hx2 : x2 < 4) (hx3 : x3 < 9) (hx4 : x4 < 9) (hx5 : x5 < 9) (H : Heap) (locs : List Loc) (ls : Array Slot) (r : (St × Int32)), m_X2_fillOne_L105 n S F x1 x2 x3 x4 x5 x6 x7 x8 x9 x10 = some r → Wd D cy A s (wC ad cy S ++ (wF ad cy F ++ X)) H locs → lv_has ls 12 [(0, .ref (ad 59)), (1, .int x1), (2, .ref (ad (72 + x2))), (3, .ref (ad (61 + x3))), (4, .ref (ad (61 + x4))), (5, .ref (ad (61 + x5))), (6, .int x6), (7, .int x7), (8, .int x8), (9, .int x9), (10, .int x10)] → (∀ (H : Heap) (locs : List Loc) (ls : Array Slot), Wd D cy A s (wC ad cy S ++ (wF ad cy r.1 ++ X)) H locs → lv_has ls 12 [(0, .ref (ad 59)), (1, .int x1), (2, .ref (ad (72 + x2))), (3, .ref (ad (61 + x3))), (4, .ref (ad (61 + x4))), (5, .ref (ad (61 + x5))), (6, .int x6), (7, .int x7), (8, .int r.2)] → W p l e (RM 1) s m args below meth c H locs 0 0 Q (F0 m 194 ls [])) → W p l e (RM 1) s m args below meth c H locs 0 0 Q (F0 m 105 ls []) := by
            intro n
            induction n with
            | zero =>
              intro F x1 x2 x3 x4 x5 x6 x7 x8 x9 x10 hx2 hx3 hx4 hx5 H locs ls r h
              exact absurd (h.symm.trans (m_X2_fillOne_L105_0 ..)) (by simp)
            | succ n ih =>
              intro F x1 x2 x3 x4 x5 x6 x7 x8 x9 x10 hx2 hx3 hx4 hx5 H locs ls r h hW hl kk
              rw [m_X2_fillOne_L105_s] at h
              refine lv_iload hx hb dX2_fillOne_105 (lv_at hl 10 rfl) ?_
              refine lv_iload hx hb dX2_fillOne_107 (lv_at hl 6 rfl) ?_
              refine lv_icmp_le (tgt := 194) hx hb dX2_fillOne_109 (by decide) (fun c16 => ?_) (fun c16 => ?_)
              · replace h := ite_t h c16
                obtain rfl := Option.some.inj h
                exact kk _ _ _ hW (lv_sub hl [0, 1, 2, 3, 4, 5, 6, 7, 8] rfl)
              · replace h := ite_f h c16
                refine lv_aload_n hx hb dX2_fillOne_112 rfl (lv_at hl 2 rfl) ?_
                refine lv_aload_n hx hb dX2_fillOne_113 rfl (lv_at hl 0 rfl) ?_
                refine wd_get hC i2 hW 59 wF_c59 rfl 6 (Nat.le_of_ble_eq_true rfl) f33 rfl rfl dX2_fillOne_114 ?_
                refine lv_iload hx hb dX2_fillOne_117 (lv_at hl 10 rfl) ?_
                refine lv_iadd hx hb dX2_fillOne_119 ?_
                obtain ⟨hi17, h⟩ := ck_of h
                refine wd_iald hC hW (72 + x2) (wG_fs hx2) hi17 dX2_fillOne_120 ?_
                refine lv_iload hx hb dX2_fillOne_121 (lv_at hl 7 rfl) ?_
                refine lv_isub hx hb dX2_fillOne_123 ?_
                refine lv_topi (fun v18 ev19 => ?_)
                replace h := nm_eq h ev19
                refine lv_istore (lv' := [(11, .int v18), (0, .ref (ad 59)), (1, .int x1), (2, .ref (ad (72 + x2))), (3, .ref (ad (61 + x3))), (4, .ref (ad (61 + x4))), (5, .ref (ad (61 + x5))), (6, .int x6), (7, .int x7), (8, .int x8), (9, .int x9), (10, .int x10)]) hx hb dX2_fillOne_124 hl (by decide) rfl (fun ls hl => ?_)
                refine lv_iload hx hb dX2_fillOne_126 (lv_at hl 9 rfl) ?_
                refine lv_sipush (v := 1000) hx hb dX2_fillOne_128 (by decide) ?_
                refine lv_iload hx hb dX2_fillOne_131 (lv_at hl 8 rfl) ?_
                refine lv_imul hx hb dX2_fillOne_133 ?_
                refine lv_aload_n hx hb dX2_fillOne_134 rfl (lv_at hl 4 rfl) ?_
                refine lv_iload hx hb dX2_fillOne_135 (lv_at hl 11 rfl) ?_
                obtain ⟨hi20, h⟩ := ck_of h
                refine wd_iald hC hW (61 + x3) (wG_od hx3) hi20 dX2_fillOne_137 ?_
                refine lv_iload hx hb dX2_fillOne_138 (lv_at hl 0 rfl) ?_
                refine lv_imul hx hb dX2_fillOne_140 ?_
                refine lv_iadd hx hb dX2_fillOne_141 ?_
                refine wd_max hC hl.1 ml120 msmax mi mcmax (Nat.le_of_ble_eq_true rfl) (Nat.le_of_ble_eq_true rfl) (Nat.zero_le _) (Nat.zero_le _) dX2_fillOne_142 ?_
                refine lv_topi (fun v21 ev22 => ?_)
                replace h := nm_eq h ev22
                refine lv_istore (lv' := [(8, .int v21), (11, .int v18), (0, .ref (ad 59)), (1, .int x1), (2, .ref (ad (72 + x2))), (3, .ref (ad (61 + x3))), (4, .ref (ad (61 + x4))), (5, .ref (ad (61 + x5))), (6, .int x6), (7, .int x7), (9, .int x9), (10, .int x10)]) hx hb dX2_fillOne_145 hl (by decide) rfl (fun ls hl => ?_)
                refine lv_iload hx hb dX2_fillOne_147 (lv_at hl 10 rfl) ?_
                refine lv_sipush (v := 1000) hx hb dX2_fillOne_149 (by decide) ?_
                refine lv_iload hx hb dX2_fillOne_152 (lv_at hl 9 rfl) ?_
                refine lv_imul hx hb dX2_fillOne_154 ?_
                refine lv_aload hx hb dX2_fillOne_155 (lv_at hl 6 rfl) ?_
                refine lv_iload hx hb dX2_fillOne_157 (lv_at hl 11 rfl) ?_
                obtain ⟨hi23, h⟩ := ck_of h
                refine wd_iald hC hW (61 + x4) (wG_od hx4) hi23 dX2_fillOne_159 ?_
                refine lv_iload hx hb dX2_fillOne_160 (lv_at hl 1 rfl) ?_
                refine lv_imul hx hb dX2_fillOne_162 ?_
                refine lv_iadd hx hb dX2_fillOne_163 ?_
                refine wd_max hC hl.1 ml120 msmax mi mcmax (Nat.le_of_ble_eq_true rfl) (Nat.le_of_ble_eq_true rfl) (Nat.zero_le _) (Nat.zero_le _) dX2_fillOne_164 ?_
                refine lv_topi (fun v24 ev25 => ?_)
                replace h := nm_eq h ev25
                refine lv_istore (lv' := [(9, .int v24), (8, .int v21), (11, .int v18), (0, .ref (ad 59)), (1, .int x1), (2, .ref (ad (72 + x2))), (3, .ref (ad (61 + x3))), (4, .ref (ad (61 + x4))), (5, .ref (ad (61 + x5))), (6, .int x6), (7, .int x7), (10, .int x10)]) hx hb dX2_fillOne_167 hl (by decide) rfl (fun ls hl => ?_)
                refine lv_aload_n hx hb dX2_fillOne_169 rfl (lv_at hl 3 rfl) ?_
                refine wd_get hC i2 hW 59 wF_c59 rfl 8 (Nat.le_of_ble_eq_true rfl) f39 rfl rfl dX2_fillOne_170 ?_
                refine lv_iload hx hb dX2_fillOne_173 (lv_at hl 9 rfl) ?_
                refine lv_bipush (v := 42) hx hb dX2_fillOne_175 (by decide) ?_
                refine lv_imul hx hb dX2_fillOne_177 ?_
                refine lv_iload hx hb dX2_fillOne_178 (lv_at hl 11 rfl) ?_
                refine lv_iadd hx hb dX2_fillOne_180 ?_
                refine lv_iload hx hb dX2_fillOne_181 (lv_at hl 0 rfl) ?_
                refine lv_sipush (v := 1000) hx hb dX2_fillOne_183 (by decide) ?_
                refine lv_idiv hx hb dX2_fillOne_186 (by decide) ?_
                obtain ⟨hi26, h⟩ := ck_of h
                refine wd_iast hC hW 77 wF_c77 hi26 wF_t77 dX2_fillOne_187 (fun H locs hW => ?_)
                obtain ⟨F27, e28, h⟩ := nm_of h
                replace hW := wq_F e28 hW
                refine lv_iinc (v := x10 + (-1)) (lv' := [(10, .int (x10 + (-1))), (9, .int v24), (8, .int v21), (11, .int v18), (0, .ref (ad 59)), (1, .int x1), (2, .ref (ad (72 + x2))), (3, .ref (ad (61 + x3))), (4, .ref (ad (61 + x4))), (5, .ref (ad (61 + x5))), (6, .int x6), (7, .int x7)]) hx hb dX2_fillOne_188 hl (k := 11) rfl rfl (by decide) rfl (fun ls hl => ?_)
                refine lv_goto (tgt := 105) hx hb dX2_fillOne_191 (by decide) ?_
                exact ih F27 x1 x2 x3 x4 x5 x6 x7 v21 v24 (x10 + (-1)) hx2 hx3 hx4 hx5 _ _ _ r h hW (lv_sub hl [4, 5, 6, 7, 8, 9, 10, 11, 2, 1, 0] rfl) kk
          obtain ⟨q14, hq15, h⟩ := bd_of h
          refine hL105 n F12 x1 x2 x3 x4 x5 x6 (F.2.1 (72 + x2) ((F.1 65) + x6).toNatClampNeg) r9 r9 x1 hx2 hx3 hx4 hx5 _ _ _ q14 hq15 hW (lv_sub hl [4, 5, 6, 7, 8, 9, 10, 3, 2, 1, 0] rfl) (fun H locs ls hW hl => ?_)
          refine lv_aload_n hx hb dX2_fillOne_194 rfl (lv_at hl 0 rfl) ?_
          refine wd_get hC i2 hW 59 wF_c59 rfl 7 (Nat.le_of_ble_eq_true rfl) f36 rfl rfl dX2_fillOne_195 ?_
          refine lv_iload hx hb dX2_fillOne_198 (lv_at hl 6 rfl) ?_
          refine lv_iload hx hb dX2_fillOne_200 (lv_at hl 6 rfl) ?_
          refine lv_iload_n hx hb dX2_fillOne_202 rfl (lv_at hl 1 rfl) ?_
          refine lv_icmp_ge (tgt := 215) hx hb dX2_fillOne_203 (by decide) (fun c29 => ?_) (fun c29 => ?_)
          · replace h := ite_t h c29
            refine lv_iload hx hb dX2_fillOne_215 (lv_at hl 7 rfl) ?_
            obtain ⟨hi30, h⟩ := ck_of h
            refine wd_iast hC hW 76 wF_c76 hi30 wF_t76 dX2_fillOne_217 (fun H locs hW => ?_)
            obtain ⟨F31, e32, h⟩ := nm_of h
            replace hW := wq_F e32 hW
            refine lv_iinc (v := x6 + 1) (lv' := [(6, .int (x6 + 1)), (0, .ref (ad 59)), (1, .int x1), (2, .ref (ad (72 + x2))), (3, .ref (ad (61 + x3))), (4, .ref (ad (61 + x4))), (5, .ref (ad (61 + x5))), (7, .int (F.2.1 (72 + x2) ((F.1 65) + x6).toNatClampNeg)), (8, .int q14.2)]) hx hb dX2_fillOne_218 hl (k := 6) rfl rfl (by decide) rfl (fun ls hl => ?_)
            refine lv_goto (tgt := 45) hx hb dX2_fillOne_221 (by decide) ?_
            exact ih F31 x1 x2 x3 x4 x5 (x6 + 1) hx2 hx3 hx4 hx5 _ _ _ r h hW (lv_sub hl [1, 2, 3, 4, 5, 6, 0] rfl) kk
          · replace h := ite_f h c29
            refine lv_iload hx hb dX2_fillOne_206 (lv_at hl 8 rfl) ?_
            refine lv_sipush (v := 1000) hx hb dX2_fillOne_208 (by decide) ?_
            refine lv_idiv hx hb dX2_fillOne_211 (by decide) ?_
            refine lv_goto (tgt := 217) hx hb dX2_fillOne_212 (by decide) ?_
            obtain ⟨hi33, h⟩ := ck_of h
            refine wd_iast hC hW 76 wF_c76 hi33 wF_t76 dX2_fillOne_217 (fun H locs hW => ?_)
            obtain ⟨F34, e35, h⟩ := nm_of h
            replace hW := wq_F e35 hW
            refine lv_iinc (v := x6 + 1) (lv' := [(6, .int (x6 + 1)), (0, .ref (ad 59)), (1, .int x1), (2, .ref (ad (72 + x2))), (3, .ref (ad (61 + x3))), (4, .ref (ad (61 + x4))), (5, .ref (ad (61 + x5))), (7, .int (F.2.1 (72 + x2) ((F.1 65) + x6).toNatClampNeg)), (8, .int q14.2)]) hx hb dX2_fillOne_218 hl (k := 6) rfl rfl (by decide) rfl (fun ls hl => ?_)
            refine lv_goto (tgt := 45) hx hb dX2_fillOne_221 (by decide) ?_
            exact ih F34 x1 x2 x3 x4 x5 (x6 + 1) hx2 hx3 hx4 hx5 _ _ _ r h hW (lv_sub hl [1, 2, 3, 4, 5, 6, 0] rfl) kk
  obtain ⟨q4, hq5, h⟩ := bd_of h
  refine hL45 n F p0 k1 (((F.1 64) * 3).toNatClampNeg) ((((F.1 64) * 3) + 1).toNatClampNeg) ((((F.1 64) * 3) + 2).toNatClampNeg) 1 hk1 (in_lt hi1) (in_lt hi2) (in_lt hi3) _ _ _ q4 hq5 hW (lv_sub hl [4, 5, 6, 3, 2, 1, 0] rfl) (fun H locs ls hW hl => ?_)
  refine lv_iload_n hx hb dX2_fillOne_224 rfl (lv_at hl 1 rfl) ?_
  refine lv_aload_n hx hb dX2_fillOne_225 rfl (lv_at hl 0 rfl) ?_
  refine wd_get hC i2 hW 59 wF_c59 rfl 1 (Nat.le_of_ble_eq_true rfl) f15 rfl rfl dX2_fillOne_226 ?_
  obtain ⟨r36, hr37, h⟩ := bd_of h
  refine wd_callS1 (As := [.int p0, .int (q4.1 63)]) hC hW (c_X2_atFirst l D cy ad X S q4 p0 (q4.1 63) r36 hr37) (va_cwS 2 hts (gu_S w_38_9 w_38_7 w_38_8 w_35_6) rfl rfl rfl hdX2_atFirst ⟨Nat.le_of_ble_eq_true rfl, Nat.le_of_ble_eq_true rfl⟩) rfl hl.1 rfl (Nat.le_of_ble_eq_true rfl) ⟨Nat.zero_le _, Nat.zero_le _⟩ dX2_fillOne_229 (fun H locs hW => ?_)
  refine lv_istore (lv' := [(6, .int r36), (0, .ref (ad 59)), (1, .int p0), (2, .ref (ad (72 + k1))), (3, .ref (ad (61 + ((F.1 64) * 3).toNatClampNeg))), (4, .ref (ad (61 + (((F.1 64) * 3) + 1).toNatClampNeg))), (5, .ref (ad (61 + (((F.1 64) * 3) + 2).toNatClampNeg)))]) hx hb dX2_fillOne_232 hl (by decide) rfl (fun ls hl => ?_)
  refine lv_iload_n hx hb dX2_fillOne_234 rfl (lv_at hl 2 rfl) ?_
  refine lv_istore (lv' := [(7, .int p0), (6, .int r36), (0, .ref (ad 59)), (1, .int p0), (2, .ref (ad (72 + k1))), (3, .ref (ad (61 + ((F.1 64) * 3).toNatClampNeg))), (4, .ref (ad (61 + (((F.1 64) * 3) + 1).toNatClampNeg))), (5, .ref (ad (61 + (((F.1 64) * 3) + 2).toNatClampNeg)))]) hx hb dX2_fillOne_235 hl (by decide) rfl (fun ls hl => ?_)
  have hL237 : ∀ (n : Nat) (F : St) (x1 : Int32) (x2 : Nat) (x5 : Nat) (x6 : Int32) (x7 : Int32) (hx2 : x2 < 4) (hx5 : x5 < 9) (H : Heap) (locs : List Loc) (ls : Array Slot) (r : (St)), m_X2_fillOne_L237 n S F x1 x2 x5 x6 x7 = some r → Wd D cy A s (wC ad cy S ++ (wF ad cy F ++ X)) H locs → lv_has ls 12 [(0, .ref (ad 59)), (1, .int x1), (2, .ref (ad (72 + x2))), (5, .ref (ad (61 + x5))), (6, .int x6), (7, .int x7)] → (∀ (H : Heap) (locs : List Loc) (ls : Array Slot), Wd D cy A s (wC ad cy S ++ (wF ad cy r ++ X)) H locs → lv_has ls 12 [(0, .ref (ad 59)), (1, .int x1), (2, .ref (ad (72 + x2))), (5, .ref (ad (61 + x5)))] → W p l e (RM 1) s m args below meth c H locs 0 0 Q (F0 m 309 ls [])) → W p l e (RM 1) s m args below meth c H locs 0 0 Q (F0 m 237 ls []) := by
    intro n
    induction n with
    | zero =>
      intro F x1 x2 x5 x6 x7 hx2 hx5 H locs ls r h
      exact absurd (h.symm.trans (m_X2_fillOne_L237_0 ..)) (by simp)
    | succ n ih =>
      intro F x1 x2 x5 x6 x7 hx2 hx5 H locs ls r h hW hl kk
      rw [m_X2_fillOne_L237_s] at h
      refine lv_iload hx hb dX2_fillOne_237 (lv_at hl 5 rfl) ?_
      refine lv_if_le (tgt := 309) hx hb dX2_fillOne_239 (by decide) (fun c40 => ?_) (fun c40 => ?_)
      · replace h := ite_t h c40
        obtain rfl := Option.some.inj h
        exact kk _ _ _ hW (lv_sub hl [0, 1, 2, 3] rfl)
      · replace h := ite_f h c40
        refine lv_aload_n hx hb dX2_fillOne_242 rfl (lv_at hl 0 rfl) ?_
        refine wd_get hC i2 hW 59 wF_c59 rfl 6 (Nat.le_of_ble_eq_true rfl) f33 rfl rfl dX2_fillOne_243 ?_
        refine lv_iload_n hx hb dX2_fillOne_246 rfl (lv_at hl 1 rfl) ?_
        refine lv_iadd hx hb dX2_fillOne_247 ?_
        refine lv_sipush (v := 242) hx hb dX2_fillOne_248 (by decide) ?_
        refine lv_icmp_ge (tgt := 309) hx hb dX2_fillOne_251 (by decide) (fun c41 => ?_) (fun c41 => ?_)
        · replace h := ite_t h c41
          obtain rfl := Option.some.inj h
          exact kk _ _ _ hW (lv_sub hl [0, 1, 2, 3] rfl)
        · replace h := ite_f h c41
          refine lv_iload hx hb dX2_fillOne_254 (lv_at hl 4 rfl) ?_
          refine lv_sipush (v := 1000) hx hb dX2_fillOne_256 (by decide) ?_
          refine lv_aload_n hx hb dX2_fillOne_259 rfl (lv_at hl 0 rfl) ?_
          refine wd_get hC i2 hW 59 wF_c59 rfl 1 (Nat.le_of_ble_eq_true rfl) f15 rfl rfl dX2_fillOne_260 ?_
          refine lv_imul hx hb dX2_fillOne_263 ?_
          refine lv_aload hx hb dX2_fillOne_264 (lv_at hl 3 rfl) ?_
          refine lv_iload hx hb dX2_fillOne_266 (lv_at hl 5 rfl) ?_
          obtain ⟨hi42, h⟩ := ck_of h
          refine wd_iald hC hW (61 + x5) (wG_od hx5) hi42 dX2_fillOne_268 ?_
          refine lv_aload_n hx hb dX2_fillOne_269 rfl (lv_at hl 2 rfl) ?_
          refine lv_aload_n hx hb dX2_fillOne_270 rfl (lv_at hl 0 rfl) ?_
          refine wd_get hC i2 hW 59 wF_c59 rfl 6 (Nat.le_of_ble_eq_true rfl) f33 rfl rfl dX2_fillOne_271 ?_
          refine lv_iload hx hb dX2_fillOne_274 (lv_at hl 5 rfl) ?_
          refine lv_iadd hx hb dX2_fillOne_276 ?_
          obtain ⟨hi43, h⟩ := ck_of h
          refine wd_iald hC hW (72 + x2) (wG_fs hx2) hi43 dX2_fillOne_277 ?_
          refine lv_aload_n hx hb dX2_fillOne_278 rfl (lv_at hl 0 rfl) ?_
          refine wd_get hC i2 hW 59 wF_c59 rfl 1 (Nat.le_of_ble_eq_true rfl) f15 rfl rfl dX2_fillOne_279 ?_
          refine lv_isub hx hb dX2_fillOne_282 ?_
          refine lv_imul hx hb dX2_fillOne_283 ?_
          refine lv_iadd hx hb dX2_fillOne_284 ?_
          refine wd_max hC hl.1 ml120 msmax mi mcmax (Nat.le_of_ble_eq_true rfl) (Nat.le_of_ble_eq_true rfl) (Nat.zero_le _) (Nat.zero_le _) dX2_fillOne_285 ?_
          refine lv_topi (fun v44 ev45 => ?_)
          replace h := nm_eq h ev45
          refine lv_istore (lv' := [(6, .int v44), (0, .ref (ad 59)), (1, .int x1), (2, .ref (ad (72 + x2))), (5, .ref (ad (61 + x5))), (7, .int x7)]) hx hb dX2_fillOne_288 hl (by decide) rfl (fun ls hl => ?_)
          refine lv_aload_n hx hb dX2_fillOne_290 rfl (lv_at hl 1 rfl) ?_
          refine wd_get hC i2 hW 59 wF_c59 rfl 9 (Nat.le_of_ble_eq_true rfl) f42 rfl rfl dX2_fillOne_291 ?_
          refine lv_iload hx hb dX2_fillOne_294 (lv_at hl 5 rfl) ?_
          refine lv_iload hx hb dX2_fillOne_296 (lv_at hl 0 rfl) ?_
          refine lv_sipush (v := 1000) hx hb dX2_fillOne_298 (by decide) ?_
          refine lv_idiv hx hb dX2_fillOne_301 (by decide) ?_
          obtain ⟨hi46, h⟩ := ck_of h
          refine wd_iast hC hW 78 wF_c78 hi46 wF_t78 dX2_fillOne_302 (fun H locs hW => ?_)
          obtain ⟨F47, e48, h⟩ := nm_of h
          replace hW := wq_F e48 hW
          refine lv_iinc (v := x7 + (-1)) (lv' := [(7, .int (x7 + (-1))), (6, .int v44), (0, .ref (ad 59)), (1, .int x1), (2, .ref (ad (72 + x2))), (5, .ref (ad (61 + x5)))]) hx hb dX2_fillOne_303 hl (k := 5) rfl rfl (by decide) rfl (fun ls hl => ?_)
          refine lv_goto (tgt := 237) hx hb dX2_fillOne_306 (by decide) ?_
          exact ih F47 x1 x2 x5 v44 (x7 + (-1)) hx2 hx5 _ _ _ r h hW (lv_sub hl [2, 3, 4, 5, 1, 0] rfl) kk
  obtain ⟨q38, hq39, h⟩ := bd_of h
  refine hL237 n q4 p0 k1 ((((F.1 64) * 3) + 2).toNatClampNeg) r36 p0 hk1 (in_lt hi3) _ _ _ q38 hq39 hW (lv_sub hl [2, 3, 4, 7, 1, 0] rfl) (fun H locs ls hW hl => ?_)
  obtain rfl := Option.some.inj h
  exact wd_vret hA hQ hC hr hk hW dX2_fillOne_309
def m_X2_fillTwo_L66 : Nat → St → St → Int32 → Nat → Nat → Nat → Int32 → Int32 → Int32 → Option (Int32)
  | 0, _, _, _, _, _, _, _, _, _ => none
  | n + 1, S, F, x1, x2, x3, x4, x5, x6, x7 =>
    if x7 ≤ x5 then (some x6) else (ck ((x5 * 42) + x7) 1764 (ck x7 42 (ck x7 42 (nm (mx x6 ((1000 * (F.2.1 77 ((x5 * 42) + x7).toNatClampNeg)) + ((F.2.1 (61 + x3) x7.toNatClampNeg) * ((F.2.1 76 x7.toNatClampNeg) - (F.2.1 77 ((x5 * 42) + x7).toNatClampNeg))))) (fun v16 => m_X2_fillTwo_L66 n S F x1 x2 x3 x4 x5 v16 (x7 + (-1)))))))
theorem m_X2_fillTwo_L66_0 (S : St) (F : St) (x1 : Int32) (x2 : Nat) (x3 : Nat) (x4 : Nat) (x5 : Int32) (x6 : Int32) (x7 : Int32) : m_X2_fillTwo_L66 0 S F x1 x2 x3 x4 x5 x6 x7 = none := rfl
theorem m_X2_fillTwo_L66_s {n : Nat} {S : St} {F : St} {x1 : Int32} {x2 : Nat} {x3 : Nat} {x4 : Nat} {x5 : Int32} {x6 : Int32} {x7 : Int32} : m_X2_fillTwo_L66 (n + 1) S F x1 x2 x3 x4 x5 x6 x7 =
    (if x7 ≤ x5 then (some x6) else (ck ((x5 * 42) + x7) 1764 (ck x7 42 (ck x7 42 (nm (mx x6 ((1000 * (F.2.1 77 ((x5 * 42) + x7).toNatClampNeg)) + ((F.2.1 (61 + x3) x7.toNatClampNeg) * ((F.2.1 76 x7.toNatClampNeg) - (F.2.1 77 ((x5 * 42) + x7).toNatClampNeg))))) (fun v16 => m_X2_fillTwo_L66 n S F x1 x2 x3 x4 x5 v16 (x7 + (-1)))))))) := rfl
def m_X2_fillTwo_L30 : Nat → St → St → Int32 → Nat → Nat → Nat → Int32 → Option (St)
  | 0, _, _, _, _, _, _, _ => none
  | n + 1, S, F, x1, x2, x3, x4, x5 =>
    if x1 < x5 then (some F) else (if 242 ≤ ((F.1 65) + x1) then (some F) else (ck ((F.1 65) + x5) 242 ((m_X2_atFirst S F x1 (F.2.1 (72 + x2) ((F.1 65) + x5).toNatClampNeg)).bind (fun r8 => (m_X2_fillTwo_L66 n S F x1 x2 x3 x4 x5 r8 x1).bind (fun q10 => if x1 ≤ x5 then (ck ((F.1 65) + x5) 242 (ck x5 42 (nm (sA F 79 x5.toNatClampNeg (F.2.1 (72 + x2) ((F.1 65) + x5).toNatClampNeg)) (fun F21 => m_X2_fillTwo_L30 n S F21 x1 x2 x3 x4 (x5 + 1))))) else (ck x5 42 (nm (sA F 79 x5.toNatClampNeg (q10 / 1000)) (fun F24 => m_X2_fillTwo_L30 n S F24 x1 x2 x3 x4 (x5 + 1)))))))))
theorem m_X2_fillTwo_L30_0 (S : St) (F : St) (x1 : Int32) (x2 : Nat) (x3 : Nat) (x4 : Nat) (x5 : Int32) : m_X2_fillTwo_L30 0 S F x1 x2 x3 x4 x5 = none := rfl
theorem m_X2_fillTwo_L30_s {n : Nat} {S : St} {F : St} {x1 : Int32} {x2 : Nat} {x3 : Nat} {x4 : Nat} {x5 : Int32} : m_X2_fillTwo_L30 (n + 1) S F x1 x2 x3 x4 x5 =
    (if x1 < x5 then (some F) else (if 242 ≤ ((F.1 65) + x1) then (some F) else (ck ((F.1 65) + x5) 242 ((m_X2_atFirst S F x1 (F.2.1 (72 + x2) ((F.1 65) + x5).toNatClampNeg)).bind (fun r8 => (m_X2_fillTwo_L66 n S F x1 x2 x3 x4 x5 r8 x1).bind (fun q10 => if x1 ≤ x5 then (ck ((F.1 65) + x5) 242 (ck x5 42 (nm (sA F 79 x5.toNatClampNeg (F.2.1 (72 + x2) ((F.1 65) + x5).toNatClampNeg)) (fun F21 => m_X2_fillTwo_L30 n S F21 x1 x2 x3 x4 (x5 + 1))))) else (ck x5 42 (nm (sA F 79 x5.toNatClampNeg (q10 / 1000)) (fun F24 => m_X2_fillTwo_L30 n S F24 x1 x2 x3 x4 (x5 + 1)))))))))) := rfl
def m_X2_fillTwo_L173 : Nat → St → St → Nat → Int32 → Int32 → Option (St)
  | 0, _, _, _, _, _ => none
  | n + 1, S, F, x4, x5, x6 =>
    if x6 ≤ 0 then (some F) else (ck x6 42 (ck x6 42 (ck (((x6 * 42) + x6) + 1) 1764 (nm (mx x5 ((1000 * (F.2.1 78 x6.toNatClampNeg)) + ((F.2.1 (61 + x4) x6.toNatClampNeg) * ((F.2.1 77 (((x6 * 42) + x6) + 1).toNatClampNeg) - (F.2.1 78 x6.toNatClampNeg))))) (fun v34 => ck x6 42 (nm (sA F 80 x6.toNatClampNeg (v34 / 1000)) (fun F37 => m_X2_fillTwo_L173 n S F37 x4 v34 (x6 + (-1)))))))))
theorem m_X2_fillTwo_L173_0 (S : St) (F : St) (x4 : Nat) (x5 : Int32) (x6 : Int32) : m_X2_fillTwo_L173 0 S F x4 x5 x6 = none := rfl
theorem m_X2_fillTwo_L173_s {n : Nat} {S : St} {F : St} {x4 : Nat} {x5 : Int32} {x6 : Int32} : m_X2_fillTwo_L173 (n + 1) S F x4 x5 x6 =
    (if x6 ≤ 0 then (some F) else (ck x6 42 (ck x6 42 (ck (((x6 * 42) + x6) + 1) 1764 (nm (mx x5 ((1000 * (F.2.1 78 x6.toNatClampNeg)) + ((F.2.1 (61 + x4) x6.toNatClampNeg) * ((F.2.1 77 (((x6 * 42) + x6) + 1).toNatClampNeg) - (F.2.1 78 x6.toNatClampNeg))))) (fun v34 => ck x6 42 (nm (sA F 80 x6.toNatClampNeg (v34 / 1000)) (fun F37 => m_X2_fillTwo_L173 n S F37 x4 v34 (x6 + (-1)))))))))) := rfl
def m_X2_fillTwo (n : Nat) (S : St) (F : St) (p0 : Int32) (k1 : Nat) : Option (St) :=
  ck ((F.1 64) * 3) 9 (ck (((F.1 64) * 3) + 1) 9 ((m_X2_fillTwo_L30 n S F p0 k1 (((F.1 64) * 3).toNatClampNeg) ((((F.1 64) * 3) + 1).toNatClampNeg) 1).bind (fun q3 => (m_X2_atFirst S q3 p0 (q3.1 63)).bind (fun r26 => (m_X2_fillTwo_L173 n S q3 ((((F.1 64) * 3) + 1).toNatClampNeg) r26 p0).bind (fun q28 => some q28)))))
set_option maxHeartbeats 4000000 in
set_option maxRecDepth 100000 in
theorem c_X2_fillTwo (l : Launch) (D : va_G) (cy : Nat → ClassId) (ad : Nat → Nat) (X : va_W) (n : Nat) (S : St) (F : St) (p0 : Int32) (k1 : Nat) (r : (St)) (h : m_X2_fillTwo n S F p0 k1 = some r) (hk1 : k1 < 4) : CT l yX2_fillTwo (wu yX2_fillTwo cX2_fillTwo 9 none) 1 D cy [.ref (ad 59), .int p0, .ref (ad (72 + k1))] (wC ad cy S ++ (wF ad cy F ++ X)) (none) (wC ad cy S ++ (wF ad cy r ++ X)) := by
  refine CT.mk (cc := cX2_fillTwo) (maxL := 9) (ret := none) (own := RX2) (by decide) rfl rfl (Nat.le_of_ble_eq_true rfl) ?_
  intro p e s m args below meth c ls A Q hA hQ hC hr hk hW hl
  have hx := hC.1
  have hb := hC.2.1
  have hown := hC.2.2.2.1
  have hts := hC.2.2.2.2
  have hl : lv_has ls 9 [(0, .ref (ad 59)), (1, .int p0), (2, .ref (ad (72 + k1)))] := hl
  have f20 := hts _ (wu_in w_35_13)
  have i2 := (fun w h => wu_in (inc_2 w h) : ∀ w ∈ u_ws RX2 TX2 12, w ∈ (wu yX2_fillTwo cX2_fillTwo 9 none))
  have f30 := hts _ (wu_in w_35_16)
  have f33 := hts _ (wu_in w_35_17)
  have f39 := hts _ (wu_in w_35_19)
  have f36 := hts _ (wu_in w_35_18)
  have ml120 := hts _ (wu_in w_37_17)
  have msmax := hts _ (wu_in w_15_13)
  have mi := hts _ (wu_in w_15_14)
  have mcmax := hts _ (wu_in w_15_15)
  have f45 := hts _ (wu_in w_35_21)
  have f15 := hts _ (wu_in w_35_11)
  have f42 := hts _ (wu_in w_35_20)
  have f48 := hts _ (wu_in w_35_22)
  unfold m_X2_fillTwo at h
  refine lv_aload_n hx hb dX2_fillTwo_0 rfl (lv_at hl 0 rfl) ?_
  refine wd_get hC i2 hW 59 wF_c59 rfl 2 (Nat.le_of_ble_eq_true rfl) f20 rfl rfl dX2_fillTwo_1 ?_
  refine lv_aload_n hx hb dX2_fillTwo_4 rfl (lv_at hl 0 rfl) ?_
  refine wd_get hC i2 hW 59 wF_c59 rfl 5 (Nat.le_of_ble_eq_true rfl) f30 rfl rfl dX2_fillTwo_5 ?_
  refine lv_iconst (v := 3) hx hb dX2_fillTwo_8 (by decide) ?_
  refine lv_imul hx hb dX2_fillTwo_9 ?_
  obtain ⟨hi1, h⟩ := ck_of h
  refine wd_aldg hC hW 60 wF_c60 hi1 rfl dX2_fillTwo_10 ?_
  refine lv_astore_n (lv' := [(3, .ref (ad (61 + ((F.1 64) * 3).toNatClampNeg))), (0, .ref (ad 59)), (1, .int p0), (2, .ref (ad (72 + k1)))]) hx hb dX2_fillTwo_11 rfl hl (by decide) rfl (fun ls hl => ?_)
  refine lv_aload_n hx hb dX2_fillTwo_12 rfl (lv_at hl 1 rfl) ?_
  refine wd_get hC i2 hW 59 wF_c59 rfl 2 (Nat.le_of_ble_eq_true rfl) f20 rfl rfl dX2_fillTwo_13 ?_
  refine lv_aload_n hx hb dX2_fillTwo_16 rfl (lv_at hl 1 rfl) ?_
  refine wd_get hC i2 hW 59 wF_c59 rfl 5 (Nat.le_of_ble_eq_true rfl) f30 rfl rfl dX2_fillTwo_17 ?_
  refine lv_iconst (v := 3) hx hb dX2_fillTwo_20 (by decide) ?_
  refine lv_imul hx hb dX2_fillTwo_21 ?_
  refine lv_iconst (v := 1) hx hb dX2_fillTwo_22 (by decide) ?_
  refine lv_iadd hx hb dX2_fillTwo_23 ?_
  obtain ⟨hi2, h⟩ := ck_of h
  refine wd_aldg hC hW 60 wF_c60 hi2 rfl dX2_fillTwo_24 ?_
  refine lv_astore (lv' := [(4, .ref (ad (61 + (((F.1 64) * 3) + 1).toNatClampNeg))), (3, .ref (ad (61 + ((F.1 64) * 3).toNatClampNeg))), (0, .ref (ad 59)), (1, .int p0), (2, .ref (ad (72 + k1)))]) hx hb dX2_fillTwo_25 hl (by decide) rfl (fun ls hl => ?_)
  refine lv_iconst (v := 1) hx hb dX2_fillTwo_27 (by decide) ?_
  refine lv_istore (lv' := [(5, .int 1), (4, .ref (ad (61 + (((F.1 64) * 3) + 1).toNatClampNeg))), (3, .ref (ad (61 + ((F.1 64) * 3).toNatClampNeg))), (0, .ref (ad 59)), (1, .int p0), (2, .ref (ad (72 + k1)))]) hx hb dX2_fillTwo_28 hl (by decide) rfl (fun ls hl => ?_)
  have hL30 : ∀ (n : Nat) (F : St) (x1 : Int32) (x2 : Nat) (x3 : Nat) (x4 : Nat) (x5 : Int32) (hx2 : x2 < 4) (hx3 : x3 < 9) (hx4 : x4 < 9) (H : Heap) (locs : List Loc) (ls : Array Slot) (r : (St)), m_X2_fillTwo_L30 n S F x1 x2 x3 x4 x5 = some r → Wd D cy A s (wC ad cy S ++ (wF ad cy F ++ X)) H locs → lv_has ls 9 [(0, .ref (ad 59)), (1, .int x1), (2, .ref (ad (72 + x2))), (3, .ref (ad (61 + x3))), (4, .ref (ad (61 + x4))), (5, .int x5)] → (∀ (H : Heap) (locs : List Loc) (ls : Array Slot), Wd D cy A s (wC ad cy S ++ (wF ad cy r ++ X)) H locs → lv_has ls 9 [(0, .ref (ad 59)), (1, .int x1), (2, .ref (ad (72 + x2))), (3, .ref (ad (61 + x3))), (4, .ref (ad (61 + x4)))] → W p l e (RM 1) s m args below meth c H locs 0 0 Q (F0 m 160 ls [])) → W p l e (RM 1) s m args below meth c H locs 0 0 Q (F0 m 30 ls []) := by
    intro n
    induction n with
    | zero =>
      intro F x1 x2 x3 x4 x5 hx2 hx3 hx4 H locs ls r h
      exact absurd (h.symm.trans (m_X2_fillTwo_L30_0 ..)) (by simp)
    | succ n ih =>
      intro F x1 x2 x3 x4 x5 hx2 hx3 hx4 H locs ls r h hW hl kk
      rw [m_X2_fillTwo_L30_s] at h
      refine lv_iload hx hb dX2_fillTwo_30 (lv_at hl 5 rfl) ?_
      refine lv_iload_n hx hb dX2_fillTwo_32 rfl (lv_at hl 1 rfl) ?_
      refine lv_icmp_gt (tgt := 160) hx hb dX2_fillTwo_33 (by decide) (fun c5 => ?_) (fun c5 => ?_)
      · replace h := ite_t h c5
        obtain rfl := Option.some.inj h
        exact kk _ _ _ hW (lv_sub hl [0, 1, 2, 3, 4] rfl)
      · replace h := ite_f h c5
        refine lv_aload_n hx hb dX2_fillTwo_36 rfl (lv_at hl 0 rfl) ?_
        refine wd_get hC i2 hW 59 wF_c59 rfl 6 (Nat.le_of_ble_eq_true rfl) f33 rfl rfl dX2_fillTwo_37 ?_
        refine lv_iload_n hx hb dX2_fillTwo_40 rfl (lv_at hl 1 rfl) ?_
        refine lv_iadd hx hb dX2_fillTwo_41 ?_
        refine lv_sipush (v := 242) hx hb dX2_fillTwo_42 (by decide) ?_
        refine lv_icmp_ge (tgt := 160) hx hb dX2_fillTwo_45 (by decide) (fun c6 => ?_) (fun c6 => ?_)
        · replace h := ite_t h c6
          obtain rfl := Option.some.inj h
          exact kk _ _ _ hW (lv_sub hl [0, 1, 2, 3, 4] rfl)
        · replace h := ite_f h c6
          refine lv_iload_n hx hb dX2_fillTwo_48 rfl (lv_at hl 1 rfl) ?_
          refine lv_aload_n hx hb dX2_fillTwo_49 rfl (lv_at hl 2 rfl) ?_
          refine lv_aload_n hx hb dX2_fillTwo_50 rfl (lv_at hl 0 rfl) ?_
          refine wd_get hC i2 hW 59 wF_c59 rfl 6 (Nat.le_of_ble_eq_true rfl) f33 rfl rfl dX2_fillTwo_51 ?_
          refine lv_iload hx hb dX2_fillTwo_54 (lv_at hl 5 rfl) ?_
          refine lv_iadd hx hb dX2_fillTwo_56 ?_
          obtain ⟨hi7, h⟩ := ck_of h
          refine wd_iald hC hW (72 + x2) (wG_fs hx2) hi7 dX2_fillTwo_57 ?_
          obtain ⟨r8, hr9, h⟩ := bd_of h
          refine wd_callS1 (As := [.int x1, .int (F.2.1 (72 + x2) ((F.1 65) + x5).toNatClampNeg)]) hC hW (c_X2_atFirst l D cy ad X S F x1 (F.2.1 (72 + x2) ((F.1 65) + x5).toNatClampNeg) r8 hr9) (va_cwS 2 hts (gu_S w_38_9 w_38_7 w_38_8 w_35_6) rfl rfl rfl hdX2_atFirst ⟨Nat.le_of_ble_eq_true rfl, Nat.le_of_ble_eq_true rfl⟩) rfl hl.1 rfl (Nat.le_of_ble_eq_true rfl) ⟨Nat.zero_le _, Nat.zero_le _⟩ dX2_fillTwo_58 (fun H locs hW => ?_)
          refine lv_istore (lv' := [(6, .int r8), (0, .ref (ad 59)), (1, .int x1), (2, .ref (ad (72 + x2))), (3, .ref (ad (61 + x3))), (4, .ref (ad (61 + x4))), (5, .int x5)]) hx hb dX2_fillTwo_61 hl (by decide) rfl (fun ls hl => ?_)
          refine lv_iload_n hx hb dX2_fillTwo_63 rfl (lv_at hl 2 rfl) ?_
          refine lv_istore (lv' := [(7, .int x1), (6, .int r8), (0, .ref (ad 59)), (1, .int x1), (2, .ref (ad (72 + x2))), (3, .ref (ad (61 + x3))), (4, .ref (ad (61 + x4))), (5, .int x5)]) hx hb dX2_fillTwo_64 hl (by decide) rfl (fun ls hl => ?_)
          have hL66 : ∀ (n : Nat) (x1 : Int32) (x2 : Nat) (x3 : Nat) (x4 : Nat) (x5 : Int32) (x6 : Int32) (x7 : Int32) (hx2 : x2 < 4) (hx3 : x3 < 9) (hx4 : x4 < 9) (H : Heap) (locs : List Loc) (ls : Array Slot) (r : (Int32)), m_X2_fillTwo_L66 n S F x1 x2 x3 x4 x5 x6 x7 = some r → Wd D cy A s (wC ad cy S ++ (wF ad cy F ++ X)) H locs → lv_has ls 9 [(0, .ref (ad 59)), (1, .int x1), (2, .ref (ad (72 + x2))), (3, .ref (ad (61 + x3))), (4, .ref (ad (61 + x4))), (5, .int x5), (6, .int x6), (7, .int x7)] → (∀ (H : Heap) (locs : List Loc) (ls : Array Slot), Wd D cy A s (wC ad cy S ++ (wF ad cy F ++ X)) H locs → lv_has ls 9 [(0, .ref (ad 59)), (1, .int x1), (2, .ref (ad (72 + x2))), (3, .ref (ad (61 + x3))), (4, .ref (ad (61 + x4))), (5, .int x5), (6, .int r)] → W p l e (RM 1) s m args below meth c H locs 0 0 Q (F0 m 123 ls [])) → W p l e (RM 1) s m args below meth c H locs 0 0 Q (F0 m 66 ls []) := by
            intro n
            induction n with
            | zero =>
              intro x1 x2 x3 x4 x5 x6 x7 hx2 hx3 hx4 H locs ls r h
              exact absurd (h.symm.trans (m_X2_fillTwo_L66_0 ..)) (by simp)
            | succ n ih =>
              intro x1 x2 x3 x4 x5 x6 x7 hx2 hx3 hx4 H locs ls r h hW hl kk
              rw [m_X2_fillTwo_L66_s] at h
              refine lv_iload hx hb dX2_fillTwo_66 (lv_at hl 7 rfl) ?_
              refine lv_iload hx hb dX2_fillTwo_68 (lv_at hl 5 rfl) ?_
              refine lv_icmp_le (tgt := 123) hx hb dX2_fillTwo_70 (by decide) (fun c12 => ?_) (fun c12 => ?_)
              · replace h := ite_t h c12
                obtain rfl := Option.some.inj h
                exact kk _ _ _ hW (lv_sub hl [0, 1, 2, 3, 4, 5, 6] rfl)
              · replace h := ite_f h c12
                refine lv_aload_n hx hb dX2_fillTwo_73 rfl (lv_at hl 0 rfl) ?_
                refine wd_get hC i2 hW 59 wF_c59 rfl 8 (Nat.le_of_ble_eq_true rfl) f39 rfl rfl dX2_fillTwo_74 ?_
                refine lv_iload hx hb dX2_fillTwo_77 (lv_at hl 5 rfl) ?_
                refine lv_bipush (v := 42) hx hb dX2_fillTwo_79 (by decide) ?_
                refine lv_imul hx hb dX2_fillTwo_81 ?_
                refine lv_iload hx hb dX2_fillTwo_82 (lv_at hl 7 rfl) ?_
                refine lv_iadd hx hb dX2_fillTwo_84 ?_
                obtain ⟨hi13, h⟩ := ck_of h
                refine wd_iald hC hW 77 wF_c77 hi13 dX2_fillTwo_85 ?_
                refine lv_istore (lv' := [(8, .int (F.2.1 77 ((x5 * 42) + x7).toNatClampNeg)), (0, .ref (ad 59)), (1, .int x1), (2, .ref (ad (72 + x2))), (3, .ref (ad (61 + x3))), (4, .ref (ad (61 + x4))), (5, .int x5), (6, .int x6), (7, .int x7)]) hx hb dX2_fillTwo_86 hl (by decide) rfl (fun ls hl => ?_)
                refine lv_iload hx hb dX2_fillTwo_88 (lv_at hl 7 rfl) ?_
                refine lv_sipush (v := 1000) hx hb dX2_fillTwo_90 (by decide) ?_
                refine lv_iload hx hb dX2_fillTwo_93 (lv_at hl 0 rfl) ?_
                refine lv_imul hx hb dX2_fillTwo_95 ?_
                refine lv_aload_n hx hb dX2_fillTwo_96 rfl (lv_at hl 4 rfl) ?_
                refine lv_iload hx hb dX2_fillTwo_97 (lv_at hl 8 rfl) ?_
                obtain ⟨hi14, h⟩ := ck_of h
                refine wd_iald hC hW (61 + x3) (wG_od hx3) hi14 dX2_fillTwo_99 ?_
                refine lv_aload_n hx hb dX2_fillTwo_100 rfl (lv_at hl 1 rfl) ?_
                refine wd_get hC i2 hW 59 wF_c59 rfl 7 (Nat.le_of_ble_eq_true rfl) f36 rfl rfl dX2_fillTwo_101 ?_
                refine lv_iload hx hb dX2_fillTwo_104 (lv_at hl 8 rfl) ?_
                obtain ⟨hi15, h⟩ := ck_of h
                refine wd_iald hC hW 76 wF_c76 hi15 dX2_fillTwo_106 ?_
                refine lv_iload hx hb dX2_fillTwo_107 (lv_at hl 0 rfl) ?_
                refine lv_isub hx hb dX2_fillTwo_109 ?_
                refine lv_imul hx hb dX2_fillTwo_110 ?_
                refine lv_iadd hx hb dX2_fillTwo_111 ?_
                refine wd_max hC hl.1 ml120 msmax mi mcmax (Nat.le_of_ble_eq_true rfl) (Nat.le_of_ble_eq_true rfl) (Nat.zero_le _) (Nat.zero_le _) dX2_fillTwo_112 ?_
                refine lv_topi (fun v16 ev17 => ?_)
                replace h := nm_eq h ev17
                refine lv_istore (lv' := [(6, .int v16), (8, .int (F.2.1 77 ((x5 * 42) + x7).toNatClampNeg)), (0, .ref (ad 59)), (1, .int x1), (2, .ref (ad (72 + x2))), (3, .ref (ad (61 + x3))), (4, .ref (ad (61 + x4))), (5, .int x5), (7, .int x7)]) hx hb dX2_fillTwo_115 hl (by decide) rfl (fun ls hl => ?_)
                refine lv_iinc (v := x7 + (-1)) (lv' := [(7, .int (x7 + (-1))), (6, .int v16), (8, .int (F.2.1 77 ((x5 * 42) + x7).toNatClampNeg)), (0, .ref (ad 59)), (1, .int x1), (2, .ref (ad (72 + x2))), (3, .ref (ad (61 + x3))), (4, .ref (ad (61 + x4))), (5, .int x5)]) hx hb dX2_fillTwo_117 hl (k := 8) rfl rfl (by decide) rfl (fun ls hl => ?_)
                refine lv_goto (tgt := 66) hx hb dX2_fillTwo_120 (by decide) ?_
                exact ih x1 x2 x3 x4 x5 v16 (x7 + (-1)) hx2 hx3 hx4 _ _ _ r h hW (lv_sub hl [3, 4, 5, 6, 7, 8, 1, 0] rfl) kk
          obtain ⟨q10, hq11, h⟩ := bd_of h
          refine hL66 n x1 x2 x3 x4 x5 r8 x1 hx2 hx3 hx4 _ _ _ q10 hq11 hW (lv_sub hl [2, 3, 4, 5, 6, 7, 1, 0] rfl) (fun H locs ls hW hl => ?_)
          refine lv_aload_n hx hb dX2_fillTwo_123 rfl (lv_at hl 0 rfl) ?_
          refine wd_get hC i2 hW 59 wF_c59 rfl 10 (Nat.le_of_ble_eq_true rfl) f45 rfl rfl dX2_fillTwo_124 ?_
          refine lv_iload hx hb dX2_fillTwo_127 (lv_at hl 5 rfl) ?_
          refine lv_iload hx hb dX2_fillTwo_129 (lv_at hl 5 rfl) ?_
          refine lv_iload_n hx hb dX2_fillTwo_131 rfl (lv_at hl 1 rfl) ?_
          refine lv_icmp_ge (tgt := 144) hx hb dX2_fillTwo_132 (by decide) (fun c18 => ?_) (fun c18 => ?_)
          · replace h := ite_t h c18
            refine lv_aload_n hx hb dX2_fillTwo_144 rfl (lv_at hl 2 rfl) ?_
            refine lv_aload_n hx hb dX2_fillTwo_145 rfl (lv_at hl 0 rfl) ?_
            refine wd_get hC i2 hW 59 wF_c59 rfl 6 (Nat.le_of_ble_eq_true rfl) f33 rfl rfl dX2_fillTwo_146 ?_
            refine lv_iload hx hb dX2_fillTwo_149 (lv_at hl 5 rfl) ?_
            refine lv_iadd hx hb dX2_fillTwo_151 ?_
            obtain ⟨hi19, h⟩ := ck_of h
            refine wd_iald hC hW (72 + x2) (wG_fs hx2) hi19 dX2_fillTwo_152 ?_
            obtain ⟨hi20, h⟩ := ck_of h
            refine wd_iast hC hW 79 wF_c79 hi20 wF_t79 dX2_fillTwo_153 (fun H locs hW => ?_)
            obtain ⟨F21, e22, h⟩ := nm_of h
            replace hW := wq_F e22 hW
            refine lv_iinc (v := x5 + 1) (lv' := [(5, .int (x5 + 1)), (0, .ref (ad 59)), (1, .int x1), (2, .ref (ad (72 + x2))), (3, .ref (ad (61 + x3))), (4, .ref (ad (61 + x4))), (6, .int q10)]) hx hb dX2_fillTwo_154 hl (k := 5) rfl rfl (by decide) rfl (fun ls hl => ?_)
            refine lv_goto (tgt := 30) hx hb dX2_fillTwo_157 (by decide) ?_
            exact ih F21 x1 x2 x3 x4 (x5 + 1) hx2 hx3 hx4 _ _ _ r h hW (lv_sub hl [1, 2, 3, 4, 5, 0] rfl) kk
          · replace h := ite_f h c18
            refine lv_iload hx hb dX2_fillTwo_135 (lv_at hl 6 rfl) ?_
            refine lv_sipush (v := 1000) hx hb dX2_fillTwo_137 (by decide) ?_
            refine lv_idiv hx hb dX2_fillTwo_140 (by decide) ?_
            refine lv_goto (tgt := 153) hx hb dX2_fillTwo_141 (by decide) ?_
            obtain ⟨hi23, h⟩ := ck_of h
            refine wd_iast hC hW 79 wF_c79 hi23 wF_t79 dX2_fillTwo_153 (fun H locs hW => ?_)
            obtain ⟨F24, e25, h⟩ := nm_of h
            replace hW := wq_F e25 hW
            refine lv_iinc (v := x5 + 1) (lv' := [(5, .int (x5 + 1)), (0, .ref (ad 59)), (1, .int x1), (2, .ref (ad (72 + x2))), (3, .ref (ad (61 + x3))), (4, .ref (ad (61 + x4))), (6, .int q10)]) hx hb dX2_fillTwo_154 hl (k := 5) rfl rfl (by decide) rfl (fun ls hl => ?_)
            refine lv_goto (tgt := 30) hx hb dX2_fillTwo_157 (by decide) ?_
            exact ih F24 x1 x2 x3 x4 (x5 + 1) hx2 hx3 hx4 _ _ _ r h hW (lv_sub hl [1, 2, 3, 4, 5, 0] rfl) kk
  obtain ⟨q3, hq4, h⟩ := bd_of h
  refine hL30 n F p0 k1 (((F.1 64) * 3).toNatClampNeg) ((((F.1 64) * 3) + 1).toNatClampNeg) 1 hk1 (in_lt hi1) (in_lt hi2) _ _ _ q3 hq4 hW (lv_sub hl [3, 4, 5, 2, 1, 0] rfl) (fun H locs ls hW hl => ?_)
  refine lv_iload_n hx hb dX2_fillTwo_160 rfl (lv_at hl 1 rfl) ?_
  refine lv_aload_n hx hb dX2_fillTwo_161 rfl (lv_at hl 0 rfl) ?_
  refine wd_get hC i2 hW 59 wF_c59 rfl 1 (Nat.le_of_ble_eq_true rfl) f15 rfl rfl dX2_fillTwo_162 ?_
  obtain ⟨r26, hr27, h⟩ := bd_of h
  refine wd_callS1 (As := [.int p0, .int (q3.1 63)]) hC hW (c_X2_atFirst l D cy ad X S q3 p0 (q3.1 63) r26 hr27) (va_cwS 2 hts (gu_S w_38_9 w_38_7 w_38_8 w_35_6) rfl rfl rfl hdX2_atFirst ⟨Nat.le_of_ble_eq_true rfl, Nat.le_of_ble_eq_true rfl⟩) rfl hl.1 rfl (Nat.le_of_ble_eq_true rfl) ⟨Nat.zero_le _, Nat.zero_le _⟩ dX2_fillTwo_165 (fun H locs hW => ?_)
  refine lv_istore (lv' := [(5, .int r26), (0, .ref (ad 59)), (1, .int p0), (2, .ref (ad (72 + k1))), (3, .ref (ad (61 + ((F.1 64) * 3).toNatClampNeg))), (4, .ref (ad (61 + (((F.1 64) * 3) + 1).toNatClampNeg)))]) hx hb dX2_fillTwo_168 hl (by decide) rfl (fun ls hl => ?_)
  refine lv_iload_n hx hb dX2_fillTwo_170 rfl (lv_at hl 2 rfl) ?_
  refine lv_istore (lv' := [(6, .int p0), (5, .int r26), (0, .ref (ad 59)), (1, .int p0), (2, .ref (ad (72 + k1))), (3, .ref (ad (61 + ((F.1 64) * 3).toNatClampNeg))), (4, .ref (ad (61 + (((F.1 64) * 3) + 1).toNatClampNeg)))]) hx hb dX2_fillTwo_171 hl (by decide) rfl (fun ls hl => ?_)
  have hL173 : ∀ (n : Nat) (F : St) (x4 : Nat) (x5 : Int32) (x6 : Int32) (hx4 : x4 < 9) (H : Heap) (locs : List Loc) (ls : Array Slot) (r : (St)), m_X2_fillTwo_L173 n S F x4 x5 x6 = some r → Wd D cy A s (wC ad cy S ++ (wF ad cy F ++ X)) H locs → lv_has ls 9 [(0, .ref (ad 59)), (4, .ref (ad (61 + x4))), (5, .int x5), (6, .int x6)] → (∀ (H : Heap) (locs : List Loc) (ls : Array Slot), Wd D cy A s (wC ad cy S ++ (wF ad cy r ++ X)) H locs → lv_has ls 9 [(0, .ref (ad 59)), (4, .ref (ad (61 + x4)))] → W p l e (RM 1) s m args below meth c H locs 0 0 Q (F0 m 244 ls [])) → W p l e (RM 1) s m args below meth c H locs 0 0 Q (F0 m 173 ls []) := by
    intro n
    induction n with
    | zero =>
      intro F x4 x5 x6 hx4 H locs ls r h
      exact absurd (h.symm.trans (m_X2_fillTwo_L173_0 ..)) (by simp)
    | succ n ih =>
      intro F x4 x5 x6 hx4 H locs ls r h hW hl kk
      rw [m_X2_fillTwo_L173_s] at h
      refine lv_iload hx hb dX2_fillTwo_173 (lv_at hl 3 rfl) ?_
      refine lv_if_le (tgt := 244) hx hb dX2_fillTwo_175 (by decide) (fun c30 => ?_) (fun c30 => ?_)
      · replace h := ite_t h c30
        obtain rfl := Option.some.inj h
        exact kk _ _ _ hW (lv_sub hl [0, 1] rfl)
      · replace h := ite_f h c30
        refine lv_aload_n hx hb dX2_fillTwo_178 rfl (lv_at hl 0 rfl) ?_
        refine wd_get hC i2 hW 59 wF_c59 rfl 9 (Nat.le_of_ble_eq_true rfl) f42 rfl rfl dX2_fillTwo_179 ?_
        refine lv_iload hx hb dX2_fillTwo_182 (lv_at hl 3 rfl) ?_
        obtain ⟨hi31, h⟩ := ck_of h
        refine wd_iald hC hW 78 wF_c78 hi31 dX2_fillTwo_184 ?_
        refine lv_istore (lv' := [(7, .int (F.2.1 78 x6.toNatClampNeg)), (0, .ref (ad 59)), (4, .ref (ad (61 + x4))), (5, .int x5), (6, .int x6)]) hx hb dX2_fillTwo_185 hl (by decide) rfl (fun ls hl => ?_)
        refine lv_iload hx hb dX2_fillTwo_187 (lv_at hl 3 rfl) ?_
        refine lv_sipush (v := 1000) hx hb dX2_fillTwo_189 (by decide) ?_
        refine lv_iload hx hb dX2_fillTwo_192 (lv_at hl 0 rfl) ?_
        refine lv_imul hx hb dX2_fillTwo_194 ?_
        refine lv_aload hx hb dX2_fillTwo_195 (lv_at hl 2 rfl) ?_
        refine lv_iload hx hb dX2_fillTwo_197 (lv_at hl 4 rfl) ?_
        obtain ⟨hi32, h⟩ := ck_of h
        refine wd_iald hC hW (61 + x4) (wG_od hx4) hi32 dX2_fillTwo_199 ?_
        refine lv_aload_n hx hb dX2_fillTwo_200 rfl (lv_at hl 1 rfl) ?_
        refine wd_get hC i2 hW 59 wF_c59 rfl 8 (Nat.le_of_ble_eq_true rfl) f39 rfl rfl dX2_fillTwo_201 ?_
        refine lv_iload hx hb dX2_fillTwo_204 (lv_at hl 4 rfl) ?_
        refine lv_bipush (v := 42) hx hb dX2_fillTwo_206 (by decide) ?_
        refine lv_imul hx hb dX2_fillTwo_208 ?_
        refine lv_iload hx hb dX2_fillTwo_209 (lv_at hl 4 rfl) ?_
        refine lv_iadd hx hb dX2_fillTwo_211 ?_
        refine lv_iconst (v := 1) hx hb dX2_fillTwo_212 (by decide) ?_
        refine lv_iadd hx hb dX2_fillTwo_213 ?_
        obtain ⟨hi33, h⟩ := ck_of h
        refine wd_iald hC hW 77 wF_c77 hi33 dX2_fillTwo_214 ?_
        refine lv_iload hx hb dX2_fillTwo_215 (lv_at hl 0 rfl) ?_
        refine lv_isub hx hb dX2_fillTwo_217 ?_
        refine lv_imul hx hb dX2_fillTwo_218 ?_
        refine lv_iadd hx hb dX2_fillTwo_219 ?_
        refine wd_max hC hl.1 ml120 msmax mi mcmax (Nat.le_of_ble_eq_true rfl) (Nat.le_of_ble_eq_true rfl) (Nat.zero_le _) (Nat.zero_le _) dX2_fillTwo_220 ?_
        refine lv_topi (fun v34 ev35 => ?_)
        replace h := nm_eq h ev35
        refine lv_istore (lv' := [(5, .int v34), (7, .int (F.2.1 78 x6.toNatClampNeg)), (0, .ref (ad 59)), (4, .ref (ad (61 + x4))), (6, .int x6)]) hx hb dX2_fillTwo_223 hl (by decide) rfl (fun ls hl => ?_)
        refine lv_aload_n hx hb dX2_fillTwo_225 rfl (lv_at hl 2 rfl) ?_
        refine wd_get hC i2 hW 59 wF_c59 rfl 11 (Nat.le_of_ble_eq_true rfl) f48 rfl rfl dX2_fillTwo_226 ?_
        refine lv_iload hx hb dX2_fillTwo_229 (lv_at hl 4 rfl) ?_
        refine lv_iload hx hb dX2_fillTwo_231 (lv_at hl 0 rfl) ?_
        refine lv_sipush (v := 1000) hx hb dX2_fillTwo_233 (by decide) ?_
        refine lv_idiv hx hb dX2_fillTwo_236 (by decide) ?_
        obtain ⟨hi36, h⟩ := ck_of h
        refine wd_iast hC hW 80 wF_c80 hi36 wF_t80 dX2_fillTwo_237 (fun H locs hW => ?_)
        obtain ⟨F37, e38, h⟩ := nm_of h
        replace hW := wq_F e38 hW
        refine lv_iinc (v := x6 + (-1)) (lv' := [(6, .int (x6 + (-1))), (5, .int v34), (7, .int (F.2.1 78 x6.toNatClampNeg)), (0, .ref (ad 59)), (4, .ref (ad (61 + x4)))]) hx hb dX2_fillTwo_238 hl (k := 4) rfl rfl (by decide) rfl (fun ls hl => ?_)
        refine lv_goto (tgt := 173) hx hb dX2_fillTwo_241 (by decide) ?_
        exact ih F37 x4 v34 (x6 + (-1)) hx4 _ _ _ r h hW (lv_sub hl [3, 4, 1, 0] rfl) kk
  obtain ⟨q28, hq29, h⟩ := bd_of h
  refine hL173 n q3 ((((F.1 64) * 3) + 1).toNatClampNeg) r26 p0 (in_lt hi2) _ _ _ q28 hq29 hW (lv_sub hl [2, 6, 1, 0] rfl) (fun H locs ls hW hl => ?_)
  obtain rfl := Option.some.inj h
  exact wd_vret hA hQ hC hr hk hW dX2_fillTwo_244
def m_X2_fillTables_L2 (so : St → St → Int32 → Int32 → Option (Int32 × St)) : Nat → St → St → Int32 → Int32 → Int32 → Option (St)
  | 0, _, _, _, _, _ => none
  | n + 1, S, F, x1, x2, x3 =>
    ck x1 3 (if (F.2.1 70 x1.toNatClampNeg) < x3 then (some F) else ((so S F (x1 + 1) (x2 + x3)).bind (fun r5 => m_X2_fillTables_L2 so n S r5.2 x1 x2 (x3 + 1))))
theorem m_X2_fillTables_L2_0 {so : St → St → Int32 → Int32 → Option (Int32 × St)} (S : St) (F : St) (x1 : Int32) (x2 : Int32) (x3 : Int32) : m_X2_fillTables_L2 so 0 S F x1 x2 x3 = none := rfl
theorem m_X2_fillTables_L2_s {so : St → St → Int32 → Int32 → Option (Int32 × St)} {n : Nat} {S : St} {F : St} {x1 : Int32} {x2 : Int32} {x3 : Int32} : m_X2_fillTables_L2 so (n + 1) S F x1 x2 x3 =
    (ck x1 3 (if (F.2.1 70 x1.toNatClampNeg) < x3 then (some F) else ((so S F (x1 + 1) (x2 + x3)).bind (fun r5 => m_X2_fillTables_L2 so n S r5.2 x1 x2 (x3 + 1))))) := rfl
def m_X2_fillTables (so : St → St → Int32 → Int32 → Option (Int32 × St)) (n : Nat) (S : St) (F : St) (p0 : Int32) (p1 : Int32) : Option (St) :=
  (m_X2_fillTables_L2 so n S F p0 p1 1).bind (fun q1 => nm (sI q1 64 p0) (fun F7 => nm (sI F7 65 p1) (fun F9 => ck p0 3 (ck (p0 + 1) 4 ((m_X2_fillOne n S F9 (F9.2.1 70 p0.toNatClampNeg) ((p0 + 1).toNatClampNeg)).bind (fun r13 => ck p0 3 (ck (p0 + 1) 4 ((m_X2_fillTwo n S r13 (r13.2.1 70 p0.toNatClampNeg) ((p0 + 1).toNatClampNeg)).bind (fun r17 => some r17)))))))))
set_option maxHeartbeats 4000000 in
set_option maxRecDepth 100000 in
theorem c_X2_fillTables (l : Launch) (D : va_G) (cy : Nat → ClassId) (ad : Nat → Nat) (X : va_W) (so : St → St → Int32 → Int32 → Option (Int32 × St)) (dd : Nat) (hf : ∀ (S F : St) (p0 p1 : Int32) (r : Int32 × St), so S F p0 p1 = some r → CT l yX2_startOf (wu yX2_startOf cX2_startOf 3 (some .int)) dd D cy [.ref (ad 59), .int p0, .int p1] (wC ad cy S ++ (wF ad cy F ++ X)) (some (.int r.1)) (wC ad cy S ++ (wF ad cy r.2 ++ X))) (n : Nat) (S : St) (F : St) (p0 : Int32) (p1 : Int32) (r : (St)) (h : m_X2_fillTables so n S F p0 p1 = some r) : CT l yX2_fillTables (wu yX2_fillTables cX2_fillTables 4 none) (dd + 3) D cy [.ref (ad 59), .int p0, .int p1] (wC ad cy S ++ (wF ad cy F ++ X)) (none) (wC ad cy S ++ (wF ad cy r ++ X)) := by
  refine CT.mk (cc := cX2_fillTables) (maxL := 4) (ret := none) (own := RX2) (by decide) rfl rfl (Nat.le_of_ble_eq_true rfl) ?_
  intro p e s m args below meth c ls A Q hA hQ hC hr hk hW hl
  have hx := hC.1
  have hb := hC.2.1
  have hown := hC.2.2.2.1
  have hts := hC.2.2.2.2
  have hl : lv_has ls 4 [(0, .ref (ad 59)), (1, .int p0), (2, .int p1)] := hl
  have f23 := hts _ (wu_in w_35_14)
  have i2 := (fun w h => wu_in (inc_2 w h) : ∀ w ∈ u_ws RX2 TX2 12, w ∈ (wu yX2_fillTables cX2_fillTables 4 none))
  have f30 := hts _ (wu_in w_35_16)
  have f33 := hts _ (wu_in w_35_17)
  have f27 := hts _ (wu_in w_35_15)
  unfold m_X2_fillTables at h
  refine lv_iconst (v := 1) hx hb dX2_fillTables_0 (by decide) ?_
  refine lv_istore_n (lv' := [(3, .int 1), (0, .ref (ad 59)), (1, .int p0), (2, .int p1)]) hx hb dX2_fillTables_1 rfl hl (by decide) rfl (fun ls hl => ?_)
  have hL2 : ∀ (n : Nat) (F : St) (x1 : Int32) (x2 : Int32) (x3 : Int32)  (H : Heap) (locs : List Loc) (ls : Array Slot) (r : (St)), m_X2_fillTables_L2 so n S F x1 x2 x3 = some r → Wd D cy A s (wC ad cy S ++ (wF ad cy F ++ X)) H locs → lv_has ls 4 [(0, .ref (ad 59)), (1, .int x1), (2, .int x2), (3, .int x3)] → (∀ (H : Heap) (locs : List Loc) (ls : Array Slot), Wd D cy A s (wC ad cy S ++ (wF ad cy r ++ X)) H locs → lv_has ls 4 [(0, .ref (ad 59)), (1, .int x1), (2, .int x2)] → W p l e (RM (dd + 3)) s m args below meth c H locs 0 0 Q (F0 m 29 ls [])) → W p l e (RM (dd + 3)) s m args below meth c H locs 0 0 Q (F0 m 2 ls []) := by
    intro n
    induction n with
    | zero =>
      intro F x1 x2 x3  H locs ls r h
      exact absurd (h.symm.trans (m_X2_fillTables_L2_0 ..)) (by simp)
    | succ n ih =>
      intro F x1 x2 x3  H locs ls r h hW hl kk
      rw [m_X2_fillTables_L2_s] at h
      refine lv_iload_n hx hb dX2_fillTables_2 rfl (lv_at hl 3 rfl) ?_
      refine lv_aload_n hx hb dX2_fillTables_3 rfl (lv_at hl 0 rfl) ?_
      refine wd_get hC i2 hW 59 wF_c59 rfl 3 (Nat.le_of_ble_eq_true rfl) f23 rfl rfl dX2_fillTables_4 ?_
      refine lv_iload_n hx hb dX2_fillTables_7 rfl (lv_at hl 1 rfl) ?_
      obtain ⟨hi3, h⟩ := ck_of h
      refine wd_iald hC hW 70 wF_c70 hi3 dX2_fillTables_8 ?_
      refine lv_icmp_gt (tgt := 29) hx hb dX2_fillTables_9 (by decide) (fun c4 => ?_) (fun c4 => ?_)
      · replace h := ite_t h c4
        obtain rfl := Option.some.inj h
        exact kk _ _ _ hW (lv_sub hl [0, 1, 2] rfl)
      · replace h := ite_f h c4
        refine lv_aload_n hx hb dX2_fillTables_12 rfl (lv_at hl 0 rfl) ?_
        refine lv_iload_n hx hb dX2_fillTables_13 rfl (lv_at hl 1 rfl) ?_
        refine lv_iconst (v := 1) hx hb dX2_fillTables_14 (by decide) ?_
        refine lv_iadd hx hb dX2_fillTables_15 ?_
        refine lv_iload_n hx hb dX2_fillTables_16 rfl (lv_at hl 2 rfl) ?_
        refine lv_iload_n hx hb dX2_fillTables_17 rfl (lv_at hl 3 rfl) ?_
        refine lv_iadd hx hb dX2_fillTables_18 ?_
        obtain ⟨r5, hr6, h⟩ := bd_of h
        refine wd_callV1 (As := [.int (x1 + 1), .int (x2 + x3)]) hC hW 59 wF_c59 rfl (hf S F (x1 + 1) (x2 + x3) r5 hr6) (cwV 2 hts (gu_V w_37_9 w_37_6 w_37_7 w_37_8 w_35_6) rfl rfl rfl hdX2_startOf ⟨(show (dd) + 1 ≤ dd + 3 by omega), (show 8 + (3 + 11) + 40 * (dd) ≤ 40 * (dd + 3) by omega)⟩) rfl hl.1 rfl (Nat.le_of_ble_eq_true rfl) ⟨Nat.zero_le _, Nat.zero_le _⟩ dX2_fillTables_19 (fun H locs hW => ?_)
        refine lv_pop hx hb dX2_fillTables_22 rfl ?_
        refine lv_iinc (v := x3 + 1) (lv' := [(3, .int (x3 + 1)), (0, .ref (ad 59)), (1, .int x1), (2, .int x2)]) hx hb dX2_fillTables_23 hl (k := 3) rfl rfl (by decide) rfl (fun ls hl => ?_)
        refine lv_goto (tgt := 2) hx hb dX2_fillTables_26 (by decide) ?_
        exact ih r5.2 x1 x2 (x3 + 1) _ _ _ r h hW (lv_sub hl [1, 2, 3, 0] rfl) kk
  obtain ⟨q1, hq2, h⟩ := bd_of h
  refine hL2 n F p0 p1 1  _ _ _ q1 hq2 hW (lv_sub hl [1, 2, 3, 0] rfl) (fun H locs ls hW hl => ?_)
  refine lv_aload_n hx hb dX2_fillTables_29 rfl (lv_at hl 0 rfl) ?_
  refine lv_iload_n hx hb dX2_fillTables_30 rfl (lv_at hl 1 rfl) ?_
  refine wd_put hC i2 tyX2_ok nmX2 hW 59 wF_c59 rfl 5 (Nat.le_of_ble_eq_true rfl) f30 rfl rfl rfl rfl (Nat.le_of_ble_eq_true rfl) wF_s59_5 dX2_fillTables_31 (fun H locs hW => ?_)
  obtain ⟨F7, e8, h⟩ := nm_of h
  replace hW := wq_F e8 hW
  refine lv_aload_n hx hb dX2_fillTables_34 rfl (lv_at hl 0 rfl) ?_
  refine lv_iload_n hx hb dX2_fillTables_35 rfl (lv_at hl 2 rfl) ?_
  refine wd_put hC i2 tyX2_ok nmX2 hW 59 wF_c59 rfl 6 (Nat.le_of_ble_eq_true rfl) f33 rfl rfl rfl rfl (Nat.le_of_ble_eq_true rfl) wF_s59_6 dX2_fillTables_36 (fun H locs hW => ?_)
  obtain ⟨F9, e10, h⟩ := nm_of h
  replace hW := wq_F e10 hW
  refine lv_aload_n hx hb dX2_fillTables_39 rfl (lv_at hl 0 rfl) ?_
  refine lv_aload_n hx hb dX2_fillTables_40 rfl (lv_at hl 0 rfl) ?_
  refine wd_get hC i2 hW 59 wF_c59 rfl 3 (Nat.le_of_ble_eq_true rfl) f23 rfl rfl dX2_fillTables_41 ?_
  refine lv_iload_n hx hb dX2_fillTables_44 rfl (lv_at hl 1 rfl) ?_
  obtain ⟨hi11, h⟩ := ck_of h
  refine wd_iald hC hW 70 wF_c70 hi11 dX2_fillTables_45 ?_
  refine lv_aload_n hx hb dX2_fillTables_46 rfl (lv_at hl 0 rfl) ?_
  refine wd_get hC i2 hW 59 wF_c59 rfl 4 (Nat.le_of_ble_eq_true rfl) f27 rfl rfl dX2_fillTables_47 ?_
  refine lv_iload_n hx hb dX2_fillTables_50 rfl (lv_at hl 1 rfl) ?_
  refine lv_iconst (v := 1) hx hb dX2_fillTables_51 (by decide) ?_
  refine lv_iadd hx hb dX2_fillTables_52 ?_
  obtain ⟨hi12, h⟩ := ck_of h
  refine wd_aldg hC hW 71 wF_c71 hi12 rfl dX2_fillTables_53 ?_
  obtain ⟨r13, hr14, h⟩ := bd_of h
  refine wd_callV0 (As := [.int (F9.2.1 70 p0.toNatClampNeg), .ref (ad (72 + (p0 + 1).toNatClampNeg))]) hC hW 59 wF_c59 rfl (c_X2_fillOne l D cy ad X n S F9 (F9.2.1 70 p0.toNatClampNeg) ((p0 + 1).toNatClampNeg) r13 hr14 (in_lt hi12)) (cwV 2 hts (gu_V w_38_6 w_38_3 w_38_4 w_38_5 w_35_6) rfl rfl rfl hdX2_fillOne ⟨(show (1) + 1 ≤ dd + 3 by omega), (show 8 + (12 + 11) + 40 * (1) ≤ 40 * (dd + 3) by omega)⟩) rfl hl.1 rfl (Nat.le_of_ble_eq_true rfl) ⟨Nat.zero_le _, Nat.zero_le _⟩ dX2_fillTables_54 (fun H locs hW => ?_)
  refine lv_aload_n hx hb dX2_fillTables_57 rfl (lv_at hl 0 rfl) ?_
  refine lv_aload_n hx hb dX2_fillTables_58 rfl (lv_at hl 0 rfl) ?_
  refine wd_get hC i2 hW 59 wF_c59 rfl 3 (Nat.le_of_ble_eq_true rfl) f23 rfl rfl dX2_fillTables_59 ?_
  refine lv_iload_n hx hb dX2_fillTables_62 rfl (lv_at hl 1 rfl) ?_
  obtain ⟨hi15, h⟩ := ck_of h
  refine wd_iald hC hW 70 wF_c70 hi15 dX2_fillTables_63 ?_
  refine lv_aload_n hx hb dX2_fillTables_64 rfl (lv_at hl 0 rfl) ?_
  refine wd_get hC i2 hW 59 wF_c59 rfl 4 (Nat.le_of_ble_eq_true rfl) f27 rfl rfl dX2_fillTables_65 ?_
  refine lv_iload_n hx hb dX2_fillTables_68 rfl (lv_at hl 1 rfl) ?_
  refine lv_iconst (v := 1) hx hb dX2_fillTables_69 (by decide) ?_
  refine lv_iadd hx hb dX2_fillTables_70 ?_
  obtain ⟨hi16, h⟩ := ck_of h
  refine wd_aldg hC hW 71 wF_c71 hi16 rfl dX2_fillTables_71 ?_
  obtain ⟨r17, hr18, h⟩ := bd_of h
  refine wd_callV0 (As := [.int (r13.2.1 70 p0.toNatClampNeg), .ref (ad (72 + (p0 + 1).toNatClampNeg))]) hC hW 59 wF_c59 rfl (c_X2_fillTwo l D cy ad X n S r13 (r13.2.1 70 p0.toNatClampNeg) ((p0 + 1).toNatClampNeg) r17 hr18 (in_lt hi16)) (cwV 2 hts (gu_V w_38_13 w_38_10 w_38_11 w_38_12 w_35_6) rfl rfl rfl hdX2_fillTwo ⟨(show (1) + 1 ≤ dd + 3 by omega), (show 8 + (9 + 11) + 40 * (1) ≤ 40 * (dd + 3) by omega)⟩) rfl hl.1 rfl (Nat.le_of_ble_eq_true rfl) ⟨Nat.zero_le _, Nat.zero_le _⟩ dX2_fillTables_72 (fun H locs hW => ?_)
  obtain rfl := Option.some.inj h
  exact wd_vret hA hQ hC hr hk hW dX2_fillTables_75
def m_X2_startOf (n : Nat) : Nat → St → St → Int32 → Int32 → Option (Int32 × St)
  | 0, _, _, _, _ => none
  | g + 1, S, F, p0, p1 =>
    if p0 < 0 then (some (0, F)) else (if 3 < p0 then (some (0, F)) else (if p1 < 0 then (some (0, F)) else (if p1 < 242 then (((if 3 ≤ p0 then (some F) else (ck p0 4 (ck p1 242 (if 0 ≤ (F.2.1 (72 + p0.toNatClampNeg) p1.toNatClampNeg) then (some F) else ((m_X2_fillTables (m_X2_startOf n g) n S F p0 p1).bind (fun r13 => ck p0 4 ((m_X2_choose n S r13 3 0 0 1).bind (fun r16 => ck p1 242 (nm (sA r16.2 (72 + p0.toNatClampNeg) p1.toNatClampNeg r16.1) (fun F19 => some F19))))))))) : Option (St))).bind (fun q6 => ck p0 4 (ck p1 242 (some (q6.2.1 (72 + p0.toNatClampNeg) p1.toNatClampNeg, q6))))) else (some (0, F)))))
theorem m_X2_startOf_s {n : Nat} {g : Nat} {S : St} {F : St} {p0 : Int32} {p1 : Int32} : m_X2_startOf n (g + 1) S F p0 p1 =
    (if p0 < 0 then (some (0, F)) else (if 3 < p0 then (some (0, F)) else (if p1 < 0 then (some (0, F)) else (if p1 < 242 then (((if 3 ≤ p0 then (some F) else (ck p0 4 (ck p1 242 (if 0 ≤ (F.2.1 (72 + p0.toNatClampNeg) p1.toNatClampNeg) then (some F) else ((m_X2_fillTables (m_X2_startOf n g) n S F p0 p1).bind (fun r13 => ck p0 4 ((m_X2_choose n S r13 3 0 0 1).bind (fun r16 => ck p1 242 (nm (sA r16.2 (72 + p0.toNatClampNeg) p1.toNatClampNeg r16.1) (fun F19 => some F19))))))))) : Option (St))).bind (fun q6 => ck p0 4 (ck p1 242 (some (q6.2.1 (72 + p0.toNatClampNeg) p1.toNatClampNeg, q6))))) else (some (0, F)))))) := rfl
set_option maxHeartbeats 4000000 in
set_option maxRecDepth 100000 in
theorem c_X2_startOf (l : Launch) (D : va_G) (cy : Nat → ClassId) (ad : Nat → Nat) (X : va_W) (n : Nat) : ∀ (g : Nat) (S : St) (F : St) (p0 : Int32) (p1 : Int32) (r : (Int32 × St)) (h : m_X2_startOf n g S F p0 p1 = some r), CT l yX2_startOf (wu yX2_startOf cX2_startOf 3 (some .int)) (4 * g) D cy [.ref (ad 59), .int p0, .int p1] (wC ad cy S ++ (wF ad cy F ++ X)) (some (.int r.1)) (wC ad cy S ++ (wF ad cy r.2 ++ X)) := by
  intro g
  induction g with
  | zero =>
    intro S F p0 p1 r h
    exact absurd (h.symm.trans (show m_X2_startOf n 0 S F p0 p1 = none from rfl)) (by simp)
  | succ g ih =>
    intro S F p0 p1 r h
    rw [m_X2_startOf_s] at h
    refine CT.mk (cc := cX2_startOf) (maxL := 3) (ret := (some .int)) (own := RX2) (by decide) rfl rfl (Nat.le_of_ble_eq_true rfl) ?_
    intro p e s m args below meth c ls A Q hA hQ hC hr hk hW hl
    have hx := hC.1
    have hb := hC.2.1
    have hown := hC.2.2.2.1
    have hts := hC.2.2.2.2
    have hl : lv_has ls 3 [(0, .ref (ad 59)), (1, .int p0), (2, .int p1)] := hl
    have f27 := hts _ (wu_in w_35_15)
    have i2 := (fun w h => wu_in (inc_2 w h) : ∀ w ∈ u_ws RX2 TX2 12, w ∈ (wu yX2_startOf cX2_startOf 3 (some .int)))
    refine lv_iload_n hx hb dX2_startOf_0 rfl (lv_at hl 1 rfl) ?_
    refine lv_if_lt (tgt := 20) hx hb dX2_startOf_1 (by decide) (fun c1 => ?_) (fun c1 => ?_)
    · replace h := ite_t h c1
      refine lv_iconst (v := 0) hx hb dX2_startOf_20 (by decide) ?_
      obtain rfl := Option.some.inj h
      exact wd_iret hA hQ hC hr hk hW dX2_startOf_21
    · replace h := ite_f h c1
      refine lv_iload_n hx hb dX2_startOf_4 rfl (lv_at hl 1 rfl) ?_
      refine lv_iconst (v := 3) hx hb dX2_startOf_5 (by decide) ?_
      refine lv_icmp_gt (tgt := 20) hx hb dX2_startOf_6 (by decide) (fun c2 => ?_) (fun c2 => ?_)
      · replace h := ite_t h c2
        refine lv_iconst (v := 0) hx hb dX2_startOf_20 (by decide) ?_
        obtain rfl := Option.some.inj h
        exact wd_iret hA hQ hC hr hk hW dX2_startOf_21
      · replace h := ite_f h c2
        refine lv_iload_n hx hb dX2_startOf_9 rfl (lv_at hl 2 rfl) ?_
        refine lv_if_lt (tgt := 20) hx hb dX2_startOf_10 (by decide) (fun c3 => ?_) (fun c3 => ?_)
        · replace h := ite_t h c3
          refine lv_iconst (v := 0) hx hb dX2_startOf_20 (by decide) ?_
          obtain rfl := Option.some.inj h
          exact wd_iret hA hQ hC hr hk hW dX2_startOf_21
        · replace h := ite_f h c3
          refine lv_iload_n hx hb dX2_startOf_13 rfl (lv_at hl 2 rfl) ?_
          refine lv_sipush (v := 242) hx hb dX2_startOf_14 (by decide) ?_
          refine lv_icmp_lt (tgt := 22) hx hb dX2_startOf_17 (by decide) (fun c4 => ?_) (fun c4 => ?_)
          · replace h := ite_t h c4
            refine lv_iload_n hx hb dX2_startOf_22 rfl (lv_at hl 1 rfl) ?_
            refine lv_iconst (v := 3) hx hb dX2_startOf_23 (by decide) ?_
            obtain ⟨q6, hq7, h⟩ := bd_of h
            have hJ60 : ∀ (H : Heap) (locs : List Loc) (ls : Array Slot), Wd D cy A s (wC ad cy S ++ (wF ad cy q6 ++ X)) H locs → lv_has ls 3 [(0, .ref (ad 59)), (1, .int p0), (2, .int p1)] → W p l e (RM (4 * (g + 1))) s m args below meth c H locs 0 0 Q (F0 m 60 ls []) := by
              intro H locs ls hW hl
              refine lv_aload_n hx hb dX2_startOf_60 rfl (lv_at hl 0 rfl) ?_
              refine wd_get hC i2 hW 59 wF_c59 rfl 4 (Nat.le_of_ble_eq_true rfl) f27 rfl rfl dX2_startOf_61 ?_
              refine lv_iload_n hx hb dX2_startOf_64 rfl (lv_at hl 1 rfl) ?_
              obtain ⟨hi8, h⟩ := ck_of h
              refine wd_aldg hC hW 71 wF_c71 hi8 rfl dX2_startOf_65 ?_
              refine lv_iload_n hx hb dX2_startOf_66 rfl (lv_at hl 2 rfl) ?_
              obtain ⟨hi9, h⟩ := ck_of h
              refine wd_iald hC hW (72 + p0.toNatClampNeg) (wG_fs (in_lt hi8)) hi9 dX2_startOf_67 ?_
              obtain rfl := Option.some.inj h
              exact wd_iret hA hQ hC hr hk hW dX2_startOf_68
            replace h := hq7
            refine lv_icmp_ge (tgt := 60) hx hb dX2_startOf_24 (by decide) (fun c5 => ?_) (fun c5 => ?_)
            · replace h := ite_t h c5
              obtain rfl := Option.some.inj h
              exact hJ60 _ _ _ hW (lv_sub hl [0, 1, 2] rfl)
            · replace h := ite_f h c5
              refine lv_aload_n hx hb dX2_startOf_27 rfl (lv_at hl 0 rfl) ?_
              refine wd_get hC i2 hW 59 wF_c59 rfl 4 (Nat.le_of_ble_eq_true rfl) f27 rfl rfl dX2_startOf_28 ?_
              refine lv_iload_n hx hb dX2_startOf_31 rfl (lv_at hl 1 rfl) ?_
              obtain ⟨hi10, h⟩ := ck_of h
              refine wd_aldg hC hW 71 wF_c71 hi10 rfl dX2_startOf_32 ?_
              refine lv_iload_n hx hb dX2_startOf_33 rfl (lv_at hl 2 rfl) ?_
              obtain ⟨hi11, h⟩ := ck_of h
              refine wd_iald hC hW (72 + p0.toNatClampNeg) (wG_fs (in_lt hi10)) hi11 dX2_startOf_34 ?_
              refine lv_if_ge (tgt := 60) hx hb dX2_startOf_35 (by decide) (fun c12 => ?_) (fun c12 => ?_)
              · replace h := ite_t h c12
                obtain rfl := Option.some.inj h
                exact hJ60 _ _ _ hW (lv_sub hl [0, 1, 2] rfl)
              · replace h := ite_f h c12
                refine lv_aload_n hx hb dX2_startOf_38 rfl (lv_at hl 0 rfl) ?_
                refine lv_iload_n hx hb dX2_startOf_39 rfl (lv_at hl 1 rfl) ?_
                refine lv_iload_n hx hb dX2_startOf_40 rfl (lv_at hl 2 rfl) ?_
                obtain ⟨r13, hr14, h⟩ := bd_of h
                refine wd_callV0 (As := [.int p0, .int p1]) hC hW 59 wF_c59 rfl (c_X2_fillTables l D cy ad X (m_X2_startOf n g) (4 * g) ih n S F p0 p1 r13 hr14) (cwV 2 hts (gu_V w_38_2 w_37_10 w_37_11 w_37_12 w_35_6) rfl rfl rfl hdX2_fillTables ⟨(show (4 * g + 3) + 1 ≤ 4 * (g + 1) by omega), (show 8 + (4 + 11) + 40 * (4 * g + 3) ≤ 40 * (4 * (g + 1)) by omega)⟩) rfl hl.1 rfl (Nat.le_of_ble_eq_true rfl) ⟨Nat.zero_le _, Nat.zero_le _⟩ dX2_startOf_41 (fun H locs hW => ?_)
                refine lv_aload_n hx hb dX2_startOf_44 rfl (lv_at hl 0 rfl) ?_
                refine wd_get hC i2 hW 59 wF_c59 rfl 4 (Nat.le_of_ble_eq_true rfl) f27 rfl rfl dX2_startOf_45 ?_
                refine lv_iload_n hx hb dX2_startOf_48 rfl (lv_at hl 1 rfl) ?_
                obtain ⟨hi15, h⟩ := ck_of h
                refine wd_aldg hC hW 71 wF_c71 hi15 rfl dX2_startOf_49 ?_
                refine lv_iload_n hx hb dX2_startOf_50 rfl (lv_at hl 2 rfl) ?_
                refine lv_aload_n hx hb dX2_startOf_51 rfl (lv_at hl 0 rfl) ?_
                refine lv_iconst (v := 3) hx hb dX2_startOf_52 (by decide) ?_
                refine lv_iconst (v := 0) hx hb dX2_startOf_53 (by decide) ?_
                refine lv_iconst (v := 0) hx hb dX2_startOf_54 (by decide) ?_
                refine lv_iconst (v := 1) hx hb dX2_startOf_55 (by decide) ?_
                obtain ⟨r16, hr17, h⟩ := bd_of h
                refine wd_callV1 (As := [.int 3, .int 0, .int 0, .int 1]) hC hW 59 wF_c59 rfl (c_X2_choose l D cy ad X n S r13 3 0 0 1 r16 hr17) (cwV 4 hts (gu_V w_37_16 w_37_13 w_37_14 w_37_15 w_35_6) rfl rfl rfl hdX2_choose ⟨(show (2) + 1 ≤ 4 * (g + 1) by omega), (show 8 + (10 + 11) + 40 * (2) ≤ 40 * (4 * (g + 1)) by omega)⟩) rfl hl.1 rfl (Nat.le_of_ble_eq_true rfl) ⟨Nat.zero_le _, Nat.zero_le _⟩ dX2_startOf_56 (fun H locs hW => ?_)
                obtain ⟨hi18, h⟩ := ck_of h
                refine wd_iast hC hW (72 + p0.toNatClampNeg) (wG_fs (in_lt hi15)) hi18 (wG_fs_t (in_lt hi15)) dX2_startOf_59 (fun H locs hW => ?_)
                obtain ⟨F19, e20, h⟩ := nm_of h
                replace hW := wq_F e20 hW
                obtain rfl := Option.some.inj h
                exact hJ60 _ _ _ hW (lv_sub hl [0, 1, 2] rfl)
          · replace h := ite_f h c4
            refine lv_iconst (v := 0) hx hb dX2_startOf_20 (by decide) ?_
            obtain rfl := Option.some.inj h
            exact wd_iret hA hQ hC hr hk hW dX2_startOf_21
def m_X2_valueFrom (n : Nat) (S : St) (F : St) : Option (Int32 × St) :=
  nm (sI F 62 0) (fun F1 => if (S.1 50) = 0 then (if (S.1 51) < 3 then (((if (S.1 53) = 0 then (some (F1, F1.1 63)) else ((m_X2_startOf n 6 S F1 ((S.1 51) + 1) ((S.1 52) + (S.1 53))).bind (fun r15 => some (r15.2, r15.1))) : Option (St × Int32))).bind (fun q6 => (m_X5_hasTry S).bind (fun r8 => if r8 = 0 then (some (q6.2, q6.1)) else ((m_X2_fillTables (m_X2_startOf n 6) n S q6.1 (S.1 51) (S.1 52)).bind (fun r11 => (m_X2_choose n S r11 (S.1 57) (S.1 54) (S.1 53) (S.1 56)).bind (fun r13 => some (r13.1, r13.2))))))) else ((m_X2_startOf n 6 S F1 3 (S.1 52)).bind (fun r17 => some (r17.1, r17.2)))) else (some (F1.1 63, F1)))
set_option maxHeartbeats 4000000 in
set_option maxRecDepth 100000 in
theorem c_X2_valueFrom (l : Launch) (D : va_G) (cy : Nat → ClassId) (ad : Nat → Nat) (X : va_W) (n : Nat) (S : St) (F : St) (r : (Int32 × St)) (h : m_X2_valueFrom n S F = some r) : CT l yX2_valueFrom (wu yX2_valueFrom cX2_valueFrom 3 (some .int)) 28 D cy [.ref (ad 59), .ref (ad 43)] (wC ad cy S ++ (wF ad cy F ++ X)) (some (.int r.1)) (wC ad cy S ++ (wF ad cy r.2 ++ X)) := by
  refine CT.mk (cc := cX2_valueFrom) (maxL := 3) (ret := (some .int)) (own := RX2) (by decide) rfl rfl (Nat.le_of_ble_eq_true rfl) ?_
  intro p e s m args below meth c ls A Q hA hQ hC hr hk hW hl
  have hx := hC.1
  have hb := hC.2.1
  have hown := hC.2.2.2.1
  have hts := hC.2.2.2.2
  have hl : lv_has ls 3 [(0, .ref (ad 59)), (1, .ref (ad 43))] := hl
  have f9 := hts _ (wu_in w_35_10)
  have i2 := (fun w h => wu_in (inc_2 w h) : ∀ w ∈ u_ws RX2 TX2 12, w ∈ (wu yX2_valueFrom cX2_valueFrom 3 (some .int)))
  have f75 := hts _ (wu_in w_36_23)
  have i5 := (fun w h => wu_in (inc_5 w h) : ∀ w ∈ u_ws RX5 TX5 8, w ∈ (wu yX2_valueFrom cX2_valueFrom 3 (some .int)))
  have f80 := hts _ (wu_in w_37_0)
  have f86 := hts _ (wu_in w_37_2)
  have f81 := hts _ (wu_in w_37_1)
  have f97 := hts _ (wu_in w_37_3)
  have f100 := hts _ (wu_in w_37_4)
  have f103 := hts _ (wu_in w_37_5)
  have f15 := hts _ (wu_in w_35_11)
  unfold m_X2_valueFrom at h
  refine lv_aload_n hx hb dX2_valueFrom_0 rfl (lv_at hl 0 rfl) ?_
  refine lv_iconst (v := 0) hx hb dX2_valueFrom_1 (by decide) ?_
  refine wd_put hC i2 tyX2_ok nmX2 hW 59 wF_c59 rfl 0 (Nat.le_of_ble_eq_true rfl) f9 rfl rfl rfl rfl (Nat.le_of_ble_eq_true rfl) wF_s59_0 dX2_valueFrom_2 (fun H locs hW => ?_)
  obtain ⟨F1, e2, h⟩ := nm_of h
  replace hW := wq_F e2 hW
  refine lv_aload_n hx hb dX2_valueFrom_5 rfl (lv_at hl 1 rfl) ?_
  refine wd_get hC i5 hW 43 wC_c43 rfl 0 (Nat.le_of_ble_eq_true rfl) f75 rfl rfl dX2_valueFrom_6 ?_
  refine lv_if_eq (tgt := 17) hx hb dX2_valueFrom_9 (by decide) (fun c3 => ?_) (fun c3 => ?_)
  · replace h := ite_t h c3
    refine lv_aload_n hx hb dX2_valueFrom_17 rfl (lv_at hl 1 rfl) ?_
    refine wd_get hC i5 hW 43 wC_c43 rfl 1 (Nat.le_of_ble_eq_true rfl) f80 rfl rfl dX2_valueFrom_18 ?_
    refine lv_iconst (v := 3) hx hb dX2_valueFrom_21 (by decide) ?_
    refine lv_icmp_lt (tgt := 35) hx hb dX2_valueFrom_22 (by decide) (fun c4 => ?_) (fun c4 => ?_)
    · replace h := ite_t h c4
      refine lv_aload_n hx hb dX2_valueFrom_35 rfl (lv_at hl 1 rfl) ?_
      refine wd_get hC i5 hW 43 wC_c43 rfl 3 (Nat.le_of_ble_eq_true rfl) f86 rfl rfl dX2_valueFrom_36 ?_
      obtain ⟨q6, hq7, h⟩ := bd_of h
      have hJ68 : ∀ (H : Heap) (locs : List Loc) (ls : Array Slot), Wd D cy A s (wC ad cy S ++ (wF ad cy q6.1 ++ X)) H locs → lv_has ls 3 [(0, .ref (ad 59)), (1, .ref (ad 43))] → W p l e (RM 28) s m args below meth c H locs 0 0 Q (F0 m 68 ls [.int q6.2]) := by
        intro H locs ls hW hl
        refine lv_istore_n (lv' := [(2, .int q6.2), (0, .ref (ad 59)), (1, .ref (ad 43))]) hx hb dX2_valueFrom_68 rfl hl (by decide) rfl (fun ls hl => ?_)
        refine lv_aload_n hx hb dX2_valueFrom_69 rfl (lv_at hl 2 rfl) ?_
        obtain ⟨r8, hr9, h⟩ := bd_of h
        refine wd_callV1 (As := []) hC hW 43 wC_c43 rfl (c_X5_hasTry l D cy ad (wF ad cy q6.1 ++ X) S r8 hr9) (cwV 0 hts (gu_V w_36_18 w_38_14 w_36_16 w_36_17 w_2_4) rfl rfl rfl hdX5_hasTry ⟨Nat.le_of_ble_eq_true rfl, Nat.le_of_ble_eq_true rfl⟩) rfl hl.1 rfl (Nat.le_of_ble_eq_true rfl) ⟨Nat.zero_le _, Nat.zero_le _⟩ dX2_valueFrom_70 (fun H locs hW => ?_)
        refine lv_if_ne (tgt := 78) hx hb dX2_valueFrom_73 (by decide) (fun c10 => ?_) (fun c10 => ?_)
        · replace h := ite_f h c10
          refine lv_aload_n hx hb dX2_valueFrom_78 rfl (lv_at hl 1 rfl) ?_
          refine lv_aload_n hx hb dX2_valueFrom_79 rfl (lv_at hl 2 rfl) ?_
          refine wd_get hC i5 hW 43 wC_c43 rfl 1 (Nat.le_of_ble_eq_true rfl) f80 rfl rfl dX2_valueFrom_80 ?_
          refine lv_aload_n hx hb dX2_valueFrom_83 rfl (lv_at hl 2 rfl) ?_
          refine wd_get hC i5 hW 43 wC_c43 rfl 2 (Nat.le_of_ble_eq_true rfl) f81 rfl rfl dX2_valueFrom_84 ?_
          obtain ⟨r11, hr12, h⟩ := bd_of h
          refine wd_callV0 (As := [.int (S.1 51), .int (S.1 52)]) hC hW 59 wF_c59 rfl (c_X2_fillTables l D cy ad X (m_X2_startOf n 6) 24 (c_X2_startOf l D cy ad X n 6) n S q6.1 (S.1 51) (S.1 52) r11 hr12) (cwV 2 hts (gu_V w_38_2 w_37_10 w_37_11 w_37_12 w_35_6) rfl rfl rfl hdX2_fillTables ⟨Nat.le_of_ble_eq_true rfl, Nat.le_of_ble_eq_true rfl⟩) rfl hl.1 rfl (Nat.le_of_ble_eq_true rfl) ⟨Nat.zero_le _, Nat.zero_le _⟩ dX2_valueFrom_87 (fun H locs hW => ?_)
          refine lv_aload_n hx hb dX2_valueFrom_90 rfl (lv_at hl 1 rfl) ?_
          refine lv_aload_n hx hb dX2_valueFrom_91 rfl (lv_at hl 2 rfl) ?_
          refine wd_get hC i5 hW 43 wC_c43 rfl 7 (Nat.le_of_ble_eq_true rfl) f97 rfl rfl dX2_valueFrom_92 ?_
          refine lv_aload_n hx hb dX2_valueFrom_95 rfl (lv_at hl 2 rfl) ?_
          refine wd_get hC i5 hW 43 wC_c43 rfl 4 (Nat.le_of_ble_eq_true rfl) f100 rfl rfl dX2_valueFrom_96 ?_
          refine lv_aload_n hx hb dX2_valueFrom_99 rfl (lv_at hl 2 rfl) ?_
          refine wd_get hC i5 hW 43 wC_c43 rfl 3 (Nat.le_of_ble_eq_true rfl) f86 rfl rfl dX2_valueFrom_100 ?_
          refine lv_aload_n hx hb dX2_valueFrom_103 rfl (lv_at hl 2 rfl) ?_
          refine wd_get hC i5 hW 43 wC_c43 rfl 6 (Nat.le_of_ble_eq_true rfl) f103 rfl rfl dX2_valueFrom_104 ?_
          obtain ⟨r13, hr14, h⟩ := bd_of h
          refine wd_callV1 (As := [.int (S.1 57), .int (S.1 54), .int (S.1 53), .int (S.1 56)]) hC hW 59 wF_c59 rfl (c_X2_choose l D cy ad X n S r11 (S.1 57) (S.1 54) (S.1 53) (S.1 56) r13 hr14) (cwV 4 hts (gu_V w_37_16 w_37_13 w_37_14 w_37_15 w_35_6) rfl rfl rfl hdX2_choose ⟨Nat.le_of_ble_eq_true rfl, Nat.le_of_ble_eq_true rfl⟩) rfl hl.1 rfl (Nat.le_of_ble_eq_true rfl) ⟨Nat.zero_le _, Nat.zero_le _⟩ dX2_valueFrom_107 (fun H locs hW => ?_)
          obtain rfl := Option.some.inj h
          exact wd_iret hA hQ hC hr hk hW dX2_valueFrom_110
        · replace h := ite_t h c10
          refine lv_iload_n hx hb dX2_valueFrom_76 rfl (lv_at hl 0 rfl) ?_
          obtain rfl := Option.some.inj h
          exact wd_iret hA hQ hC hr hk hW dX2_valueFrom_77
      replace h := hq7
      refine lv_if_ne (tgt := 49) hx hb dX2_valueFrom_39 (by decide) (fun c5 => ?_) (fun c5 => ?_)
      · replace h := ite_f h c5
        refine lv_aload_n hx hb dX2_valueFrom_49 rfl (lv_at hl 0 rfl) ?_
        refine lv_aload_n hx hb dX2_valueFrom_50 rfl (lv_at hl 1 rfl) ?_
        refine wd_get hC i5 hW 43 wC_c43 rfl 1 (Nat.le_of_ble_eq_true rfl) f80 rfl rfl dX2_valueFrom_51 ?_
        refine lv_iconst (v := 1) hx hb dX2_valueFrom_54 (by decide) ?_
        refine lv_iadd hx hb dX2_valueFrom_55 ?_
        refine lv_aload_n hx hb dX2_valueFrom_56 rfl (lv_at hl 1 rfl) ?_
        refine wd_get hC i5 hW 43 wC_c43 rfl 2 (Nat.le_of_ble_eq_true rfl) f81 rfl rfl dX2_valueFrom_57 ?_
        refine lv_aload_n hx hb dX2_valueFrom_60 rfl (lv_at hl 1 rfl) ?_
        refine wd_get hC i5 hW 43 wC_c43 rfl 3 (Nat.le_of_ble_eq_true rfl) f86 rfl rfl dX2_valueFrom_61 ?_
        refine lv_iadd hx hb dX2_valueFrom_64 ?_
        obtain ⟨r15, hr16, h⟩ := bd_of h
        refine wd_callV1 (As := [.int ((S.1 51) + 1), .int ((S.1 52) + (S.1 53))]) hC hW 59 wF_c59 rfl (c_X2_startOf l D cy ad X n 6 S F1 ((S.1 51) + 1) ((S.1 52) + (S.1 53)) r15 hr16) (cwV 2 hts (gu_V w_37_9 w_37_6 w_37_7 w_37_8 w_35_6) rfl rfl rfl hdX2_startOf ⟨Nat.le_of_ble_eq_true rfl, Nat.le_of_ble_eq_true rfl⟩) rfl hl.1 rfl (Nat.le_of_ble_eq_true rfl) ⟨Nat.zero_le _, Nat.zero_le _⟩ dX2_valueFrom_65 (fun H locs hW => ?_)
        obtain rfl := Option.some.inj h
        exact hJ68 _ _ _ hW (lv_sub hl [0, 1] rfl)
      · replace h := ite_t h c5
        refine lv_aload_n hx hb dX2_valueFrom_42 rfl (lv_at hl 0 rfl) ?_
        refine wd_get hC i2 hW 59 wF_c59 rfl 1 (Nat.le_of_ble_eq_true rfl) f15 rfl rfl dX2_valueFrom_43 ?_
        refine lv_goto (tgt := 68) hx hb dX2_valueFrom_46 (by decide) ?_
        obtain rfl := Option.some.inj h
        exact hJ68 _ _ _ hW (lv_sub hl [0, 1] rfl)
    · replace h := ite_f h c4
      refine lv_aload_n hx hb dX2_valueFrom_25 rfl (lv_at hl 0 rfl) ?_
      refine lv_iconst (v := 3) hx hb dX2_valueFrom_26 (by decide) ?_
      refine lv_aload_n hx hb dX2_valueFrom_27 rfl (lv_at hl 1 rfl) ?_
      refine wd_get hC i5 hW 43 wC_c43 rfl 2 (Nat.le_of_ble_eq_true rfl) f81 rfl rfl dX2_valueFrom_28 ?_
      obtain ⟨r17, hr18, h⟩ := bd_of h
      refine wd_callV1 (As := [.int 3, .int (S.1 52)]) hC hW 59 wF_c59 rfl (c_X2_startOf l D cy ad X n 6 S F1 3 (S.1 52) r17 hr18) (cwV 2 hts (gu_V w_37_9 w_37_6 w_37_7 w_37_8 w_35_6) rfl rfl rfl hdX2_startOf ⟨Nat.le_of_ble_eq_true rfl, Nat.le_of_ble_eq_true rfl⟩) rfl hl.1 rfl (Nat.le_of_ble_eq_true rfl) ⟨Nat.zero_le _, Nat.zero_le _⟩ dX2_valueFrom_31 (fun H locs hW => ?_)
      obtain rfl := Option.some.inj h
      exact wd_iret hA hQ hC hr hk hW dX2_valueFrom_34
  · replace h := ite_f h c3
    refine lv_aload_n hx hb dX2_valueFrom_12 rfl (lv_at hl 0 rfl) ?_
    refine wd_get hC i2 hW 59 wF_c59 rfl 1 (Nat.le_of_ble_eq_true rfl) f15 rfl rfl dX2_valueFrom_13 ?_
    obtain rfl := Option.some.inj h
    exact wd_iret hA hQ hC hr hk hW dX2_valueFrom_16
